/-! the String constant, and its indexOf -/
theorem sj_value : Cond.fieldLink RJ0 9 "java/lang/String" "value" "[B" ∈ ax_Tb := List.mem_filter.mpr ⟨List.mem_append_right _ (List.mem_of_getElem? (i := 1059) (by decide +kernel)), by decide +kernel⟩
theorem sj_coder : Cond.fieldLink RJ0 15 "java/lang/String" "coder" "B" ∈ ax_Tb := List.mem_filter.mpr ⟨List.mem_append_right _ (List.mem_of_getElem? (i := 1058) (by decide +kernel)), by decide +kernel⟩
theorem sj_cs : Cond.fieldLink RJ0 38 "java/lang/String" "COMPACT_STRINGS" "Z" ∈ ax_Tb := List.mem_filter.mpr ⟨List.mem_append_right _ (List.mem_of_getElem? (i := 312) (by decide +kernel)), by decide +kernel⟩
theorem sj_i0 : Cond.initialized RJ0 ∈ ax_Tb := List.mem_filter.mpr ⟨List.mem_append_right _ (List.mem_of_getElem? (i := 10) (by decide +kernel)), by decide +kernel⟩
theorem sj_i1 : Cond.initialized RJ1 ∈ ax_Tb := List.mem_filter.mpr ⟨List.mem_append_right _ (List.mem_of_getElem? (i := 11) (by decide +kernel)), by decide +kernel⟩
theorem sjc_J0_indexOf_0f7a4 : Cond.code yJ0_indexOf_0f7a4 cJ0_indexOf_0f7a4 2 (some .int) ∈ ax_Tb := List.mem_filter.mpr ⟨List.mem_append_right _ (List.mem_of_getElem? (i := 303) (by decide +kernel)), by decide +kernel⟩
theorem sjm_J0_indexOf_0f7a4 : Cond.instanceMethod yJ0_indexOf_0f7a4 ∈ ax_Tb := List.mem_filter.mpr ⟨List.mem_append_right _ (List.mem_of_getElem? (i := 301) (by decide +kernel)), by decide +kernel⟩
theorem sjl_J0_indexOf_0f7a4 : Cond.selects RJ0 yJ0_indexOf_0f7a4 yJ0_indexOf_0f7a4 ∈ ax_Tb := List.mem_filter.mpr ⟨List.mem_append_right _ (List.mem_of_getElem? (i := 302) (by decide +kernel)), by decide +kernel⟩
theorem sjd_J0_indexOf_0f7a4 : yJ0_indexOf_0f7a4.cls ≠ "java/lang/invoke/MethodHandle" ∧ yJ0_indexOf_0f7a4.cls ≠ "java/lang/invoke/VarHandle" ∧ (parseMethodDescriptor yJ0_indexOf_0f7a4.desc).map (fun d => d.parameters.length) = some 1 := ⟨by decide +kernel, by decide +kernel, by decide +kernel⟩
theorem sjc_J0_indexOf_7cf53 : Cond.code yJ0_indexOf_7cf53 cJ0_indexOf_7cf53 3 (some .int) ∈ ax_Tb := List.mem_filter.mpr ⟨List.mem_append_right _ (List.mem_of_getElem? (i := 307) (by decide +kernel)), by decide +kernel⟩
theorem sjm_J0_indexOf_7cf53 : Cond.instanceMethod yJ0_indexOf_7cf53 ∈ ax_Tb := List.mem_filter.mpr ⟨List.mem_append_right _ (List.mem_of_getElem? (i := 305) (by decide +kernel)), by decide +kernel⟩
theorem sjl_J0_indexOf_7cf53 : Cond.selects RJ0 yJ0_indexOf_7cf53 yJ0_indexOf_7cf53 ∈ ax_Tb := List.mem_filter.mpr ⟨List.mem_append_right _ (List.mem_of_getElem? (i := 306) (by decide +kernel)), by decide +kernel⟩
theorem sjd_J0_indexOf_7cf53 : yJ0_indexOf_7cf53.cls ≠ "java/lang/invoke/MethodHandle" ∧ yJ0_indexOf_7cf53.cls ≠ "java/lang/invoke/VarHandle" ∧ (parseMethodDescriptor yJ0_indexOf_7cf53.desc).map (fun d => d.parameters.length) = some 2 := ⟨by decide +kernel, by decide +kernel, by decide +kernel⟩
theorem sjc_J0_isLatin1_aae02 : Cond.code yJ0_isLatin1_aae02 cJ0_isLatin1_aae02 1 (some .boolean) ∈ ax_Tb := List.mem_filter.mpr ⟨List.mem_append_right _ (List.mem_of_getElem? (i := 311) (by decide +kernel)), by decide +kernel⟩
theorem sjm_J0_isLatin1_aae02 : Cond.instanceMethod yJ0_isLatin1_aae02 ∈ ax_Tb := List.mem_filter.mpr ⟨List.mem_append_right _ (List.mem_of_getElem? (i := 309) (by decide +kernel)), by decide +kernel⟩
theorem sjl_J0_isLatin1_aae02 : Cond.selects RJ0 yJ0_isLatin1_aae02 yJ0_isLatin1_aae02 ∈ ax_Tb := List.mem_filter.mpr ⟨List.mem_append_right _ (List.mem_of_getElem? (i := 310) (by decide +kernel)), by decide +kernel⟩
theorem sjd_J0_isLatin1_aae02 : yJ0_isLatin1_aae02.cls ≠ "java/lang/invoke/MethodHandle" ∧ yJ0_isLatin1_aae02.cls ≠ "java/lang/invoke/VarHandle" ∧ (parseMethodDescriptor yJ0_isLatin1_aae02.desc).map (fun d => d.parameters.length) = some 0 := ⟨by decide +kernel, by decide +kernel, by decide +kernel⟩
theorem sjc_J0_length_8abf5 : Cond.code yJ0_length_8abf5 cJ0_length_8abf5 1 (some .int) ∈ ax_Tb := List.mem_filter.mpr ⟨List.mem_append_right _ (List.mem_of_getElem? (i := 317) (by decide +kernel)), by decide +kernel⟩
theorem sjm_J0_length_8abf5 : Cond.instanceMethod yJ0_length_8abf5 ∈ ax_Tb := List.mem_filter.mpr ⟨List.mem_append_right _ (List.mem_of_getElem? (i := 315) (by decide +kernel)), by decide +kernel⟩
theorem sjl_J0_length_8abf5 : Cond.selects RJ0 yJ0_length_8abf5 yJ0_length_8abf5 ∈ ax_Tb := List.mem_filter.mpr ⟨List.mem_append_right _ (List.mem_of_getElem? (i := 316) (by decide +kernel)), by decide +kernel⟩
theorem sjd_J0_length_8abf5 : yJ0_length_8abf5.cls ≠ "java/lang/invoke/MethodHandle" ∧ yJ0_length_8abf5.cls ≠ "java/lang/invoke/VarHandle" ∧ (parseMethodDescriptor yJ0_length_8abf5.desc).map (fun d => d.parameters.length) = some 0 := ⟨by decide +kernel, by decide +kernel, by decide +kernel⟩
theorem sjc_J0_coder_7d493 : Cond.code yJ0_coder_7d493 cJ0_coder_7d493 1 (some .byte) ∈ ax_Tb := List.mem_filter.mpr ⟨List.mem_append_right _ (List.mem_of_getElem? (i := 321) (by decide +kernel)), by decide +kernel⟩
theorem sjm_J0_coder_7d493 : Cond.instanceMethod yJ0_coder_7d493 ∈ ax_Tb := List.mem_filter.mpr ⟨List.mem_append_right _ (List.mem_of_getElem? (i := 319) (by decide +kernel)), by decide +kernel⟩
theorem sjl_J0_coder_7d493 : Cond.selects RJ0 yJ0_coder_7d493 yJ0_coder_7d493 ∈ ax_Tb := List.mem_filter.mpr ⟨List.mem_append_right _ (List.mem_of_getElem? (i := 320) (by decide +kernel)), by decide +kernel⟩
theorem sjd_J0_coder_7d493 : yJ0_coder_7d493.cls ≠ "java/lang/invoke/MethodHandle" ∧ yJ0_coder_7d493.cls ≠ "java/lang/invoke/VarHandle" ∧ (parseMethodDescriptor yJ0_coder_7d493.desc).map (fun d => d.parameters.length) = some 0 := ⟨by decide +kernel, by decide +kernel, by decide +kernel⟩
theorem sjc_J1_indexOf_4cfef : Cond.code yJ1_indexOf_4cfef cJ1_indexOf_4cfef 4 (some .int) ∈ ax_Tb := List.mem_filter.mpr ⟨List.mem_append_right _ (List.mem_of_getElem? (i := 324) (by decide +kernel)), by decide +kernel⟩
theorem sjs_J1_indexOf_4cfef : Cond.static yJ1_indexOf_4cfef ∈ ax_Tb := List.mem_filter.mpr ⟨List.mem_append_right _ (List.mem_of_getElem? (i := 323) (by decide +kernel)), by decide +kernel⟩
theorem sjd_J1_indexOf_4cfef : yJ1_indexOf_4cfef.cls ≠ "java/lang/invoke/MethodHandle" ∧ yJ1_indexOf_4cfef.cls ≠ "java/lang/invoke/VarHandle" ∧ (parseMethodDescriptor yJ1_indexOf_4cfef.desc).map (fun d => d.parameters.length) = some 4 := ⟨by decide +kernel, by decide +kernel, by decide +kernel⟩
theorem sjc_J1_canEncode_9a6ad : Cond.code yJ1_canEncode_9a6ad cJ1_canEncode_9a6ad 1 (some .boolean) ∈ ax_Tb := List.mem_filter.mpr ⟨List.mem_append_right _ (List.mem_of_getElem? (i := 327) (by decide +kernel)), by decide +kernel⟩
theorem sjs_J1_canEncode_9a6ad : Cond.static yJ1_canEncode_9a6ad ∈ ax_Tb := List.mem_filter.mpr ⟨List.mem_append_right _ (List.mem_of_getElem? (i := 326) (by decide +kernel)), by decide +kernel⟩
theorem sjd_J1_canEncode_9a6ad : yJ1_canEncode_9a6ad.cls ≠ "java/lang/invoke/MethodHandle" ∧ yJ1_canEncode_9a6ad.cls ≠ "java/lang/invoke/VarHandle" ∧ (parseMethodDescriptor yJ1_canEncode_9a6ad.desc).map (fun d => d.parameters.length) = some 1 := ⟨by decide +kernel, by decide +kernel, by decide +kernel⟩
theorem sjc_J1_indexOfChar_4cfef : Cond.code yJ1_indexOfChar_4cfef cJ1_indexOfChar_4cfef 6 (some .int) ∈ ax_Tb := List.mem_filter.mpr ⟨List.mem_append_right _ (List.mem_of_getElem? (i := 336) (by decide +kernel)), by decide +kernel⟩
theorem sjs_J1_indexOfChar_4cfef : Cond.static yJ1_indexOfChar_4cfef ∈ ax_Tb := List.mem_filter.mpr ⟨List.mem_append_right _ (List.mem_of_getElem? (i := 335) (by decide +kernel)), by decide +kernel⟩
theorem sjd_J1_indexOfChar_4cfef : yJ1_indexOfChar_4cfef.cls ≠ "java/lang/invoke/MethodHandle" ∧ yJ1_indexOfChar_4cfef.cls ≠ "java/lang/invoke/VarHandle" ∧ (parseMethodDescriptor yJ1_indexOfChar_4cfef.desc).map (fun d => d.parameters.length) = some 4 := ⟨by decide +kernel, by decide +kernel, by decide +kernel⟩
theorem pn_J0 : plainName RJ0 = true := by decide +kernel
theorem pn_J1 : plainName RJ1 = true := by decide +kernel
section AXSTR
variable {l : Launch} {G : va_G} {cy : ax_Y} {b : Nat} {R : Room} {own nm : String} {cc : ByteArray} {nL : Nat} {ret : Option FieldType} {K : Option Value → ax_H → Nat → Prop} {mc ms pc : Nat} {lv : List (Option Value)} {st : List Value} {h : ax_H} {n cells slots : Nat}
theorem xt_ldcS (hd : decode cc pc = .ok (.ldc 48, 2)) (k : ax_T l G cy b R RX3 nm cc nL ret K mc ms (pc + 2) lv (.retAddr cy.2.1 :: st) h n cells slots) : ax_T l G cy b R RX3 nm cc nL ret K mc ms pc lv st h n cells slots := by
  intro p e s m args below meth c Q H locs ls E hK hR hRp hS hb hl
  exact va_ldcS E.1 E.2.1 E.2.2.2.1 hK.2.2.2.2.1 hd (k p e s m args below meth c Q H locs ls E hK hR hRp hS hb hl)
theorem xt_strV (hd : decode cc pc = .ok (.getfield 9, 3)) (k : ax_T l G cy b R RJ0 nm cc nL ret K mc ms (pc + 3) lv (.retAddr cy.2.2.1 :: st) h n cells slots) : ax_T l G cy b R RJ0 nm cc nL ret K mc ms pc lv (.retAddr cy.2.1 :: st) h n cells slots := by
  intro p e s m args below meth c Q H locs ls E hK hR hRp hS hb hl
  exact vk_getf E.1 E.2.1 ((hK.2.2.2.1.1 0 (by decide)).2.2.1) hS E.2.2.2.1 (E.2.2.2.2.1 _ sj_value) (fun _ q => q) hd (k p e s m args below meth c Q H locs ls E hK hR hRp hS hb hl)
theorem xt_strC (hd : decode cc pc = .ok (.getfield 15, 3)) (k : ax_T l G cy b R RJ0 nm cc nL ret K mc ms (pc + 3) lv (.int 0 :: st) h n cells slots) : ax_T l G cy b R RJ0 nm cc nL ret K mc ms pc lv (.retAddr cy.2.1 :: st) h n cells slots := by
  intro p e s m args below meth c Q H locs ls E hK hR hRp hS hb hl
  exact vk_getf E.1 E.2.1 ((hK.2.2.2.1.1 0 (by decide)).2.1) hS E.2.2.2.1 (E.2.2.2.2.1 _ sj_coder) (fun _ q => q) hd (k p e s m args below meth c Q H locs ls E hK hR hRp hS hb hl)
theorem xt_strS (hd : decode cc pc = .ok (.getstatic 38, 3)) (k : ax_T l G cy b R RJ0 nm cc nL ret K mc ms (pc + 3) lv (.int 1 :: st) h n cells slots) : ax_T l G cy b R RJ0 nm cc nL ret K mc ms pc lv st h n cells slots := by
  intro p e s m args below meth c Q H locs ls E hK hR hRp hS hb hl
  exact va_gets E.1 E.2.1 hK.2.2.2.2.2.1 hS E.2.2.2.1 (E.2.2.2.2.1 _ sj_cs) (fun _ q => q) hd (k p e s m args below meth c Q H locs ls E hK hR hRp hS hb hl)
theorem xt_strL (hd : decode cc pc = .ok (.arraylength, 1)) (k : ax_T l G cy b R own nm cc nL ret K mc ms (pc + 1) lv (.int 5 :: st) h n cells slots) : ax_T l G cy b R own nm cc nL ret K mc ms pc lv (.retAddr cy.2.2.1 :: st) h n cells slots := by
  intro p e s m args below meth c Q H locs ls E hK hR hRp hS hb hl
  exact va_tlen E.1 E.2.1 ((hK.2.2.2.1.1 0 (by decide)).2.2.2) hS (v := 5) rfl hd (k p e s m args below meth c Q H locs ls E hK hR hRp hS hb hl)
theorem xt_strB {i v : Int32} (hin : ¬ (i < 0 ∨ 5 ≤ i.toNatClampNeg)) (hv : ([108, 102, 101, 99, 114] : List Int32).getD i.toNatClampNeg 0 = v) (hd : decode cc pc = .ok (.baload, 1)) (k : ax_T l G cy b R own nm cc nL ret K mc ms (pc + 1) lv (.int v :: st) h n cells slots) : ax_T l G cy b R own nm cc nL ret K mc ms pc lv (.int i :: .retAddr cy.2.2.1 :: st) h n cells slots := by
  intro p e s m args below meth c Q H locs ls E hK hR hRp hS hb hl
  exact va_tb E.1 E.2.1 ((hK.2.2.2.1.1 0 (by decide)).2.2.2) hS hin (v := .int v) (congrArg Value.int hv) hd (k p e s m args below meth c Q H locs ls E hK hR hRp hS hb hl)
theorem xt_callVR {y : MethodName} {bytes : ByteArray} {maxL : Nat} {ret2 : Option FieldType} {d mc2 ms2 index : Nat} {K2 : Option Value → ax_H → Nat → Prop} {as st0 : List Value} (hC : ax_CM l G cy b y bytes maxL ret2 d mc2 ms2 (.retAddr cy.2.1 :: as) h n K2) (hy : y.cls = RJ0) (hcode : Cond.code y bytes maxL ret2 ∈ ax_Tb) (hini : Cond.initialized y.cls ∈ ax_Tb) (hinst : Cond.instanceMethod y ∈ ax_Tb) (hsel : Cond.selects y.cls y y ∈ ax_Tb) (hlink : Cond.methodLink own index y ∈ ax_Tb) (hde : y.cls ≠ "java/lang/invoke/MethodHandle" ∧ y.cls ≠ "java/lang/invoke/VarHandle" ∧ (parseMethodDescriptor y.desc).map (fun d => d.parameters.length) = some as.length) (hRm : d + 1 ≤ R.frames ∧ 8 + (maxL + 11) + 34 * d ≤ R.locals) (hm : cells + mc2 ≤ R.cells ∧ slots + ms2 ≤ R.slots) (h8 : (st.map fun v => v.category).sum ≤ 8) (hst : st0 = as.reverse ++ .retAddr cy.2.1 :: st) (hd : decode cc pc = .ok (.invokevirtual index, 3)) (kk : ∀ v h' n', K2 v h' n' → ax_T l G cy b R own nm cc nL ret K mc ms (pc + 3) lv (v.toList ++ st) h' n' (cells + mc2) (slots + ms2)) : ax_T l G cy b R own nm cc nL ret K mc ms pc lv st0 h n cells slots := by
  intro p e s m args below meth c Q H locs ls E hK hR hRp hS hb hl
  have hts := E.2.2.2.2.1
  subst hst
  have e1 : (as.reverse ++ .retAddr cy.2.1 :: st).map (ax_v b) = (as.map (ax_v b)).reverse ++ .ref cy.2.1 :: st.map (ax_v b) := by rw [List.map_append, List.map_reverse]; rfl
  have hrec : ∃ cellB : Cell, H[cy.2.1]? = some cellB ∧ cellB.vm.isStatics = false ∧ s.vm.findClass y.cls = some cellB.cls := by
    rw [hy]; exact vk_recv hK.2.2.2.1 (i := 0) (by decide) hS
  have hp : PreV s H y.cls cy.2.1 (ax_Pc G cy b n h (.retAddr cy.2.1 :: as)) (as.map (ax_v b)) := ⟨ax_blind, hrec, fun U hU hW => ax_pre (as := .retAddr cy.2.1 :: as) hK hRp hS hb U hU hW⟩
  have cw : CallW R s args own y.cls index y bytes maxL ret2 (Cond.code y bytes maxL ret2 :: ax_Tb) (ax_rm d mc2 ms2) mc2 ms2 as.length := ⟨callB_of as.length hts (ax_good hcode) rfl rfl rfl (hts _ hini) (hts _ hlink) hde hRm, hts _ hinst, hts _ hsel⟩
  exact ax_after (a := #[]) E hK hR hS hb hl (va_runV ⟨E.1, E.2.1, E.2.2.1, E.2.2.2.1, hts⟩ hC cw hp rfl (by rw [List.length_map]) hl.1 e1 (lv_room (ax_h8 b h8)) hd hm) kk
theorem xt_bret {v : Int32} (hd : decode cc pc = .ok (.ireturn, 1)) (hr : ret = some .byte) (hv : narrow .byte (.int v) = .int v) (hc : cells ≤ mc) (hs : slots ≤ ms) (k : K (some (.int v)) h n) : ax_T l G cy b R own nm cc nL ret K mc ms pc lv [.int v] h n cells slots := by
  intro p e s m args below meth c Q H locs ls E hK hR hRp hS hb hl
  exact W.widen hc hs (hR (some (.int v)) h n H locs pc ls k hd ⟨.byte, hr, hv⟩ hRp hS)
end AXSTR
theorem ax_CM.go (own nm : String) {l : Launch} {G : va_G} {cy : ax_Y} {b : Nat} {y : MethodName} {cc : ByteArray} {nL : Nat} {ret : Option FieldType} {d mc ms : Nat} {as : List Value} {h : ax_H} {n : Nat} {K : Option Value → ax_H → Nat → Prop} (lv : List (Option Value))
    (h1 : y.cls = own) (h2 : y.name = nm) (hy : plainName own = true) (hlen : (ax_lv0 as).length ≤ nL) (hlv : ax_lv as nL = lv)
    (body : ax_T l G cy b (ax_rm d mc ms) own nm cc nL ret K mc ms 0 lv [] h n 0 0) : ax_CM l G cy b y cc nL ret d mc ms as h n K := by
  subst h1; subst h2
  exact ax_CM.of hy hlen hlv body
set_option maxHeartbeats 400000 in
set_option maxRecDepth 100000 in
theorem cs_isLatin1 {h : ax_H} {n : Nat}  (l : Launch) (G : va_G) (cy : ax_Y) (bs : Nat) : ax_CM l G cy bs yJ0_isLatin1_aae02 cJ0_isLatin1_aae02 1 (some .boolean) 0 0 0 [.retAddr cy.2.1] h n (ki 1 h n) := by
  refine ax_CM.go RJ0 "isLatin1" [some (.retAddr cy.2.1)] rfl rfl pn_J0 (lb rfl) rfl ?_
  refine xt_strS dJ0_isLatin1_aae02_0 ?_
  refine xt_if_eq 17 dJ0_isLatin1_aae02_3 rfl (fun q => absurd q (by decide)) (fun _ => ?_)
  refine xt_aload_nR dJ0_isLatin1_aae02_6 rfl rfl ?_
  refine xt_strC dJ0_isLatin1_aae02_7 ?_
  refine xt_if_ne 17 dJ0_isLatin1_aae02_10 rfl (fun q => absurd (by decide) q) (fun _ => ?_)
  refine xt_iconst (1) dJ0_isLatin1_aae02_13 rfl ?_
  refine xt_goto 18 dJ0_isLatin1_aae02_14 rfl ?_
  exact xt_zret dJ0_isLatin1_aae02_18 rfl (Or.inr rfl) (lb rfl) (lb rfl) ⟨rfl, rfl, rfl⟩
set_option maxHeartbeats 400000 in
set_option maxRecDepth 100000 in
theorem cs_coder {h : ax_H} {n : Nat}  (l : Launch) (G : va_G) (cy : ax_Y) (bs : Nat) : ax_CM l G cy bs yJ0_coder_7d493 cJ0_coder_7d493 1 (some .byte) 0 0 0 [.retAddr cy.2.1] h n (ki 0 h n) := by
  refine ax_CM.go RJ0 "coder" [some (.retAddr cy.2.1)] rfl rfl pn_J0 (lb rfl) rfl ?_
  refine xt_strS dJ0_coder_7d493_0 ?_
  refine xt_if_eq 13 dJ0_coder_7d493_3 rfl (fun q => absurd q (by decide)) (fun _ => ?_)
  refine xt_aload_nR dJ0_coder_7d493_6 rfl rfl ?_
  refine xt_strC dJ0_coder_7d493_7 ?_
  refine xt_goto 14 dJ0_coder_7d493_10 rfl ?_
  exact xt_bret dJ0_coder_7d493_14 rfl rfl (lb rfl) (lb rfl) ⟨rfl, rfl, rfl⟩
set_option maxHeartbeats 400000 in
set_option maxRecDepth 100000 in
theorem cs_length {h : ax_H} {n : Nat}  (l : Launch) (G : va_G) (cy : ax_Y) (bs : Nat) : ax_CM l G cy bs yJ0_length_8abf5 cJ0_length_8abf5 1 (some .int) 1 0 0 [.retAddr cy.2.1] h n (ki 5 h n) := by
  refine ax_CM.go RJ0 "length" [some (.retAddr cy.2.1)] rfl rfl pn_J0 (lb rfl) rfl ?_
  refine xt_aload_nR dJ0_length_8abf5_0 rfl rfl ?_
  refine xt_strV dJ0_length_8abf5_1 ?_
  refine xt_strL dJ0_length_8abf5_4 ?_
  refine xt_aload_nR dJ0_length_8abf5_5 rfl rfl ?_
  refine xt_callVR (as := []) (cs_coder l G cy bs) rfl sjc_J0_coder_7d493 sj_i0 sjm_J0_coder_7d493 sjl_J0_coder_7d493 mb318 sjd_J0_coder_7d493 ⟨lb rfl, lb rfl⟩ ⟨lb rfl, lb rfl⟩ (lb rfl) rfl dJ0_length_8abf5_6 (ki_k ?_)
  refine xt_ishr dJ0_length_8abf5_9 ?_
  exact xt_iret dJ0_length_8abf5_10 rfl (lb rfl) (lb rfl) ⟨rfl, rfl, rfl⟩
set_option maxHeartbeats 400000 in
set_option maxRecDepth 100000 in
theorem cs_canEncode {h : ax_H} {n : Nat} {x : Int32} (hx : 32 ≤ x ∧ x ≤ 126) (l : Launch) (G : va_G) (cy : ax_Y) (bs : Nat) : ax_CM l G cy bs yJ1_canEncode_9a6ad cJ1_canEncode_9a6ad 1 (some .boolean) 0 0 0 [.int x] h n (ki 1 h n) := by
  refine ax_CM.go RJ1 "canEncode" [some (.int x)] rfl rfl pn_J1 (lb rfl) rfl ?_
  refine il0 dJ1_canEncode_9a6ad_0 ?_
  refine xt_if_lt 15 dJ1_canEncode_9a6ad_1 rfl (fun q => absurd q (fun q => by rw [fb_lt] at q; have h1 := hx.1; rw [fb_le] at h1; have e1 : (32 : Int32).toInt = 32 := rfl; have e2 : (0 : Int32).toInt = 0 := rfl; omega)) (fun _ => ?_)
  refine il0 dJ1_canEncode_9a6ad_4 ?_
  refine xt_sipush (255) dJ1_canEncode_9a6ad_5 rfl ?_
  refine xt_icmp_gt 15 dJ1_canEncode_9a6ad_8 rfl (fun q => absurd q (fun q => by rw [fb_lt] at q; have h1 := hx.2; rw [fb_le] at h1; have e1 : (126 : Int32).toInt = 126 := rfl; have e2 : (255 : Int32).toInt = 255 := rfl; omega)) (fun _ => ?_)
  refine xt_iconst (1) dJ1_canEncode_9a6ad_11 rfl ?_
  refine xt_goto 16 dJ1_canEncode_9a6ad_12 rfl ?_
  exact xt_zret dJ1_canEncode_9a6ad_16 rfl (Or.inr rfl) (lb rfl) (lb rfl) ⟨rfl, rfl, rfl⟩
theorem sb_i2b : ∀ j, j < 127 → (nI j).toInt8.toInt32 = nI j := by decide +kernel
theorem sb_c {x : Int32} (hx : 32 ≤ x ∧ x ≤ 126) : x.toInt8.toInt32 = x := by
  have h1 : ¬ x < 0 := fun q => by
    rw [fb_lt] at q
    have h1 := hx.1; rw [fb_le] at h1
    have e1 : (32 : Int32).toInt = 32 := rfl
    have e2 : (0 : Int32).toInt = 0 := rfl
    omega
  obtain ⟨j, hj, rfl⟩ := nI_of2 (M := 126) (n := 126) rfl h1 hx.2
  exact sb_i2b j (by omega)
set_option maxHeartbeats 400000 in
set_option maxRecDepth 100000 in
theorem cs_indexOfChar {h : ax_H} {n : Nat} {x : Int32} (hx : 32 ≤ x ∧ x ≤ 126) (l : Launch) (G : va_G) (cy : ax_Y) (bs : Nat) : ax_CM l G cy bs yJ1_indexOfChar_4cfef cJ1_indexOfChar_4cfef 6 (some .int) 0 0 0 [.retAddr cy.2.2.1, .int x, .int 0, .int 5] h n (ki (kdV x) h n) := by
  refine ax_CM.go RJ1 "indexOfChar" [some (.retAddr cy.2.2.1), some (.int x), some (.int 0), some (.int 5), none, none] rfl rfl pn_J1 (lb rfl) rfl ?_
  by_cases h0 : x = 108
  · subst h0
    refine il1 dJ1_indexOfChar_4cfef_0 ?_
    refine xt_i2b dJ1_indexOfChar_4cfef_1 ?_
    refine xt_eqv (108) (by decide) ?_
    refine is4 dJ1_indexOfChar_4cfef_2 (by decide) rfl ?_
    refine il2 dJ1_indexOfChar_4cfef_4 ?_
    refine is5 dJ1_indexOfChar_4cfef_5 (by decide) rfl ?_
    refine il5 dJ1_indexOfChar_4cfef_7 ?_
    refine il3 dJ1_indexOfChar_4cfef_9 ?_
    refine xt_icmp_ge 31 dJ1_indexOfChar_4cfef_10 rfl (fun q => absurd q (by decide)) (fun _ => ?_)
    refine xt_aload_nR dJ1_indexOfChar_4cfef_13 rfl rfl ?_
    refine il5 dJ1_indexOfChar_4cfef_14 ?_
    refine xt_strB (i := 0) (v := 108) (by decide) rfl dJ1_indexOfChar_4cfef_16 ?_
    refine il4 dJ1_indexOfChar_4cfef_17 ?_
    refine xt_icmp_ne 25 dJ1_indexOfChar_4cfef_19 rfl (fun q => absurd (by decide) q) (fun _ => ?_)
    refine il5 dJ1_indexOfChar_4cfef_22 ?_
    exact xt_iret dJ1_indexOfChar_4cfef_24 rfl (lb rfl) (lb rfl) ⟨rfl, rfl, rfl⟩
  by_cases h1 : x = 102
  · subst h1
    refine il1 dJ1_indexOfChar_4cfef_0 ?_
    refine xt_i2b dJ1_indexOfChar_4cfef_1 ?_
    refine xt_eqv (102) (by decide) ?_
    refine is4 dJ1_indexOfChar_4cfef_2 (by decide) rfl ?_
    refine il2 dJ1_indexOfChar_4cfef_4 ?_
    refine is5 dJ1_indexOfChar_4cfef_5 (by decide) rfl ?_
    refine il5 dJ1_indexOfChar_4cfef_7 ?_
    refine il3 dJ1_indexOfChar_4cfef_9 ?_
    refine xt_icmp_ge 31 dJ1_indexOfChar_4cfef_10 rfl (fun q => absurd q (by decide)) (fun _ => ?_)
    refine xt_aload_nR dJ1_indexOfChar_4cfef_13 rfl rfl ?_
    refine il5 dJ1_indexOfChar_4cfef_14 ?_
    refine xt_strB (i := 0) (v := 108) (by decide) rfl dJ1_indexOfChar_4cfef_16 ?_
    refine il4 dJ1_indexOfChar_4cfef_17 ?_
    refine xt_icmp_ne 25 dJ1_indexOfChar_4cfef_19 rfl (fun _ => ?_) (fun q => absurd q (by decide))
    refine inc5 (1) dJ1_indexOfChar_4cfef_25 rfl (by decide) rfl ?_
    refine xt_goto 7 dJ1_indexOfChar_4cfef_28 rfl ?_
    refine il5 dJ1_indexOfChar_4cfef_7 ?_
    refine il3 dJ1_indexOfChar_4cfef_9 ?_
    refine xt_icmp_ge 31 dJ1_indexOfChar_4cfef_10 rfl (fun q => absurd q (by decide)) (fun _ => ?_)
    refine xt_aload_nR dJ1_indexOfChar_4cfef_13 rfl rfl ?_
    refine il5 dJ1_indexOfChar_4cfef_14 ?_
    refine xt_strB (i := 1) (v := 102) (by decide) rfl dJ1_indexOfChar_4cfef_16 ?_
    refine il4 dJ1_indexOfChar_4cfef_17 ?_
    refine xt_icmp_ne 25 dJ1_indexOfChar_4cfef_19 rfl (fun q => absurd (by decide) q) (fun _ => ?_)
    refine il5 dJ1_indexOfChar_4cfef_22 ?_
    exact xt_iret dJ1_indexOfChar_4cfef_24 rfl (lb rfl) (lb rfl) ⟨rfl, rfl, rfl⟩
  by_cases h2 : x = 101
  · subst h2
    refine il1 dJ1_indexOfChar_4cfef_0 ?_
    refine xt_i2b dJ1_indexOfChar_4cfef_1 ?_
    refine xt_eqv (101) (by decide) ?_
    refine is4 dJ1_indexOfChar_4cfef_2 (by decide) rfl ?_
    refine il2 dJ1_indexOfChar_4cfef_4 ?_
    refine is5 dJ1_indexOfChar_4cfef_5 (by decide) rfl ?_
    refine il5 dJ1_indexOfChar_4cfef_7 ?_
    refine il3 dJ1_indexOfChar_4cfef_9 ?_
    refine xt_icmp_ge 31 dJ1_indexOfChar_4cfef_10 rfl (fun q => absurd q (by decide)) (fun _ => ?_)
    refine xt_aload_nR dJ1_indexOfChar_4cfef_13 rfl rfl ?_
    refine il5 dJ1_indexOfChar_4cfef_14 ?_
    refine xt_strB (i := 0) (v := 108) (by decide) rfl dJ1_indexOfChar_4cfef_16 ?_
    refine il4 dJ1_indexOfChar_4cfef_17 ?_
    refine xt_icmp_ne 25 dJ1_indexOfChar_4cfef_19 rfl (fun _ => ?_) (fun q => absurd q (by decide))
    refine inc5 (1) dJ1_indexOfChar_4cfef_25 rfl (by decide) rfl ?_
    refine xt_goto 7 dJ1_indexOfChar_4cfef_28 rfl ?_
    refine il5 dJ1_indexOfChar_4cfef_7 ?_
    refine il3 dJ1_indexOfChar_4cfef_9 ?_
    refine xt_icmp_ge 31 dJ1_indexOfChar_4cfef_10 rfl (fun q => absurd q (by decide)) (fun _ => ?_)
    refine xt_aload_nR dJ1_indexOfChar_4cfef_13 rfl rfl ?_
    refine il5 dJ1_indexOfChar_4cfef_14 ?_
    refine xt_strB (i := 1) (v := 102) (by decide) rfl dJ1_indexOfChar_4cfef_16 ?_
    refine il4 dJ1_indexOfChar_4cfef_17 ?_
    refine xt_icmp_ne 25 dJ1_indexOfChar_4cfef_19 rfl (fun _ => ?_) (fun q => absurd q (by decide))
    refine inc5 (2) dJ1_indexOfChar_4cfef_25 rfl (by decide) rfl ?_
    refine xt_goto 7 dJ1_indexOfChar_4cfef_28 rfl ?_
    refine il5 dJ1_indexOfChar_4cfef_7 ?_
    refine il3 dJ1_indexOfChar_4cfef_9 ?_
    refine xt_icmp_ge 31 dJ1_indexOfChar_4cfef_10 rfl (fun q => absurd q (by decide)) (fun _ => ?_)
    refine xt_aload_nR dJ1_indexOfChar_4cfef_13 rfl rfl ?_
    refine il5 dJ1_indexOfChar_4cfef_14 ?_
    refine xt_strB (i := 2) (v := 101) (by decide) rfl dJ1_indexOfChar_4cfef_16 ?_
    refine il4 dJ1_indexOfChar_4cfef_17 ?_
    refine xt_icmp_ne 25 dJ1_indexOfChar_4cfef_19 rfl (fun q => absurd (by decide) q) (fun _ => ?_)
    refine il5 dJ1_indexOfChar_4cfef_22 ?_
    exact xt_iret dJ1_indexOfChar_4cfef_24 rfl (lb rfl) (lb rfl) ⟨rfl, rfl, rfl⟩
  by_cases h3 : x = 99
  · subst h3
    refine il1 dJ1_indexOfChar_4cfef_0 ?_
    refine xt_i2b dJ1_indexOfChar_4cfef_1 ?_
    refine xt_eqv (99) (by decide) ?_
    refine is4 dJ1_indexOfChar_4cfef_2 (by decide) rfl ?_
    refine il2 dJ1_indexOfChar_4cfef_4 ?_
    refine is5 dJ1_indexOfChar_4cfef_5 (by decide) rfl ?_
    refine il5 dJ1_indexOfChar_4cfef_7 ?_
    refine il3 dJ1_indexOfChar_4cfef_9 ?_
    refine xt_icmp_ge 31 dJ1_indexOfChar_4cfef_10 rfl (fun q => absurd q (by decide)) (fun _ => ?_)
    refine xt_aload_nR dJ1_indexOfChar_4cfef_13 rfl rfl ?_
    refine il5 dJ1_indexOfChar_4cfef_14 ?_
    refine xt_strB (i := 0) (v := 108) (by decide) rfl dJ1_indexOfChar_4cfef_16 ?_
    refine il4 dJ1_indexOfChar_4cfef_17 ?_
    refine xt_icmp_ne 25 dJ1_indexOfChar_4cfef_19 rfl (fun _ => ?_) (fun q => absurd q (by decide))
    refine inc5 (1) dJ1_indexOfChar_4cfef_25 rfl (by decide) rfl ?_
    refine xt_goto 7 dJ1_indexOfChar_4cfef_28 rfl ?_
    refine il5 dJ1_indexOfChar_4cfef_7 ?_
    refine il3 dJ1_indexOfChar_4cfef_9 ?_
    refine xt_icmp_ge 31 dJ1_indexOfChar_4cfef_10 rfl (fun q => absurd q (by decide)) (fun _ => ?_)
    refine xt_aload_nR dJ1_indexOfChar_4cfef_13 rfl rfl ?_
    refine il5 dJ1_indexOfChar_4cfef_14 ?_
    refine xt_strB (i := 1) (v := 102) (by decide) rfl dJ1_indexOfChar_4cfef_16 ?_
    refine il4 dJ1_indexOfChar_4cfef_17 ?_
    refine xt_icmp_ne 25 dJ1_indexOfChar_4cfef_19 rfl (fun _ => ?_) (fun q => absurd q (by decide))
    refine inc5 (2) dJ1_indexOfChar_4cfef_25 rfl (by decide) rfl ?_
    refine xt_goto 7 dJ1_indexOfChar_4cfef_28 rfl ?_
    refine il5 dJ1_indexOfChar_4cfef_7 ?_
    refine il3 dJ1_indexOfChar_4cfef_9 ?_
    refine xt_icmp_ge 31 dJ1_indexOfChar_4cfef_10 rfl (fun q => absurd q (by decide)) (fun _ => ?_)
    refine xt_aload_nR dJ1_indexOfChar_4cfef_13 rfl rfl ?_
    refine il5 dJ1_indexOfChar_4cfef_14 ?_
    refine xt_strB (i := 2) (v := 101) (by decide) rfl dJ1_indexOfChar_4cfef_16 ?_
    refine il4 dJ1_indexOfChar_4cfef_17 ?_
    refine xt_icmp_ne 25 dJ1_indexOfChar_4cfef_19 rfl (fun _ => ?_) (fun q => absurd q (by decide))
    refine inc5 (3) dJ1_indexOfChar_4cfef_25 rfl (by decide) rfl ?_
    refine xt_goto 7 dJ1_indexOfChar_4cfef_28 rfl ?_
    refine il5 dJ1_indexOfChar_4cfef_7 ?_
    refine il3 dJ1_indexOfChar_4cfef_9 ?_
    refine xt_icmp_ge 31 dJ1_indexOfChar_4cfef_10 rfl (fun q => absurd q (by decide)) (fun _ => ?_)
    refine xt_aload_nR dJ1_indexOfChar_4cfef_13 rfl rfl ?_
    refine il5 dJ1_indexOfChar_4cfef_14 ?_
    refine xt_strB (i := 3) (v := 99) (by decide) rfl dJ1_indexOfChar_4cfef_16 ?_
    refine il4 dJ1_indexOfChar_4cfef_17 ?_
    refine xt_icmp_ne 25 dJ1_indexOfChar_4cfef_19 rfl (fun q => absurd (by decide) q) (fun _ => ?_)
    refine il5 dJ1_indexOfChar_4cfef_22 ?_
    exact xt_iret dJ1_indexOfChar_4cfef_24 rfl (lb rfl) (lb rfl) ⟨rfl, rfl, rfl⟩
  by_cases h4 : x = 114
  · subst h4
    refine il1 dJ1_indexOfChar_4cfef_0 ?_
    refine xt_i2b dJ1_indexOfChar_4cfef_1 ?_
    refine xt_eqv (114) (by decide) ?_
    refine is4 dJ1_indexOfChar_4cfef_2 (by decide) rfl ?_
    refine il2 dJ1_indexOfChar_4cfef_4 ?_
    refine is5 dJ1_indexOfChar_4cfef_5 (by decide) rfl ?_
    refine il5 dJ1_indexOfChar_4cfef_7 ?_
    refine il3 dJ1_indexOfChar_4cfef_9 ?_
    refine xt_icmp_ge 31 dJ1_indexOfChar_4cfef_10 rfl (fun q => absurd q (by decide)) (fun _ => ?_)
    refine xt_aload_nR dJ1_indexOfChar_4cfef_13 rfl rfl ?_
    refine il5 dJ1_indexOfChar_4cfef_14 ?_
    refine xt_strB (i := 0) (v := 108) (by decide) rfl dJ1_indexOfChar_4cfef_16 ?_
    refine il4 dJ1_indexOfChar_4cfef_17 ?_
    refine xt_icmp_ne 25 dJ1_indexOfChar_4cfef_19 rfl (fun _ => ?_) (fun q => absurd q (by decide))
    refine inc5 (1) dJ1_indexOfChar_4cfef_25 rfl (by decide) rfl ?_
    refine xt_goto 7 dJ1_indexOfChar_4cfef_28 rfl ?_
    refine il5 dJ1_indexOfChar_4cfef_7 ?_
    refine il3 dJ1_indexOfChar_4cfef_9 ?_
    refine xt_icmp_ge 31 dJ1_indexOfChar_4cfef_10 rfl (fun q => absurd q (by decide)) (fun _ => ?_)
    refine xt_aload_nR dJ1_indexOfChar_4cfef_13 rfl rfl ?_
    refine il5 dJ1_indexOfChar_4cfef_14 ?_
    refine xt_strB (i := 1) (v := 102) (by decide) rfl dJ1_indexOfChar_4cfef_16 ?_
    refine il4 dJ1_indexOfChar_4cfef_17 ?_
    refine xt_icmp_ne 25 dJ1_indexOfChar_4cfef_19 rfl (fun _ => ?_) (fun q => absurd q (by decide))
    refine inc5 (2) dJ1_indexOfChar_4cfef_25 rfl (by decide) rfl ?_
    refine xt_goto 7 dJ1_indexOfChar_4cfef_28 rfl ?_
    refine il5 dJ1_indexOfChar_4cfef_7 ?_
    refine il3 dJ1_indexOfChar_4cfef_9 ?_
    refine xt_icmp_ge 31 dJ1_indexOfChar_4cfef_10 rfl (fun q => absurd q (by decide)) (fun _ => ?_)
    refine xt_aload_nR dJ1_indexOfChar_4cfef_13 rfl rfl ?_
    refine il5 dJ1_indexOfChar_4cfef_14 ?_
    refine xt_strB (i := 2) (v := 101) (by decide) rfl dJ1_indexOfChar_4cfef_16 ?_
    refine il4 dJ1_indexOfChar_4cfef_17 ?_
    refine xt_icmp_ne 25 dJ1_indexOfChar_4cfef_19 rfl (fun _ => ?_) (fun q => absurd q (by decide))
    refine inc5 (3) dJ1_indexOfChar_4cfef_25 rfl (by decide) rfl ?_
    refine xt_goto 7 dJ1_indexOfChar_4cfef_28 rfl ?_
    refine il5 dJ1_indexOfChar_4cfef_7 ?_
    refine il3 dJ1_indexOfChar_4cfef_9 ?_
    refine xt_icmp_ge 31 dJ1_indexOfChar_4cfef_10 rfl (fun q => absurd q (by decide)) (fun _ => ?_)
    refine xt_aload_nR dJ1_indexOfChar_4cfef_13 rfl rfl ?_
    refine il5 dJ1_indexOfChar_4cfef_14 ?_
    refine xt_strB (i := 3) (v := 99) (by decide) rfl dJ1_indexOfChar_4cfef_16 ?_
    refine il4 dJ1_indexOfChar_4cfef_17 ?_
    refine xt_icmp_ne 25 dJ1_indexOfChar_4cfef_19 rfl (fun _ => ?_) (fun q => absurd q (by decide))
    refine inc5 (4) dJ1_indexOfChar_4cfef_25 rfl (by decide) rfl ?_
    refine xt_goto 7 dJ1_indexOfChar_4cfef_28 rfl ?_
    refine il5 dJ1_indexOfChar_4cfef_7 ?_
    refine il3 dJ1_indexOfChar_4cfef_9 ?_
    refine xt_icmp_ge 31 dJ1_indexOfChar_4cfef_10 rfl (fun q => absurd q (by decide)) (fun _ => ?_)
    refine xt_aload_nR dJ1_indexOfChar_4cfef_13 rfl rfl ?_
    refine il5 dJ1_indexOfChar_4cfef_14 ?_
    refine xt_strB (i := 4) (v := 114) (by decide) rfl dJ1_indexOfChar_4cfef_16 ?_
    refine il4 dJ1_indexOfChar_4cfef_17 ?_
    refine xt_icmp_ne 25 dJ1_indexOfChar_4cfef_19 rfl (fun q => absurd (by decide) q) (fun _ => ?_)
    refine il5 dJ1_indexOfChar_4cfef_22 ?_
    exact xt_iret dJ1_indexOfChar_4cfef_24 rfl (lb rfl) (lb rfl) ⟨rfl, rfl, rfl⟩
  refine il1 dJ1_indexOfChar_4cfef_0 ?_
  refine xt_i2b dJ1_indexOfChar_4cfef_1 ?_
  refine xt_eqv x (sb_c hx) ?_
  refine is4 dJ1_indexOfChar_4cfef_2 (by decide) rfl ?_
  refine il2 dJ1_indexOfChar_4cfef_4 ?_
  refine is5 dJ1_indexOfChar_4cfef_5 (by decide) rfl ?_
  refine il5 dJ1_indexOfChar_4cfef_7 ?_
  refine il3 dJ1_indexOfChar_4cfef_9 ?_
  refine xt_icmp_ge 31 dJ1_indexOfChar_4cfef_10 rfl (fun q => absurd q (by decide)) (fun _ => ?_)
  refine xt_aload_nR dJ1_indexOfChar_4cfef_13 rfl rfl ?_
  refine il5 dJ1_indexOfChar_4cfef_14 ?_
  refine xt_strB (i := 0) (v := 108) (by decide) rfl dJ1_indexOfChar_4cfef_16 ?_
  refine il4 dJ1_indexOfChar_4cfef_17 ?_
  refine xt_icmp_ne 25 dJ1_indexOfChar_4cfef_19 rfl (fun _ => ?_) (fun q => absurd q.symm h0)
  refine inc5 (1) dJ1_indexOfChar_4cfef_25 rfl (by decide) rfl ?_
  refine xt_goto 7 dJ1_indexOfChar_4cfef_28 rfl ?_
  refine il5 dJ1_indexOfChar_4cfef_7 ?_
  refine il3 dJ1_indexOfChar_4cfef_9 ?_
  refine xt_icmp_ge 31 dJ1_indexOfChar_4cfef_10 rfl (fun q => absurd q (by decide)) (fun _ => ?_)
  refine xt_aload_nR dJ1_indexOfChar_4cfef_13 rfl rfl ?_
  refine il5 dJ1_indexOfChar_4cfef_14 ?_
  refine xt_strB (i := 1) (v := 102) (by decide) rfl dJ1_indexOfChar_4cfef_16 ?_
  refine il4 dJ1_indexOfChar_4cfef_17 ?_
  refine xt_icmp_ne 25 dJ1_indexOfChar_4cfef_19 rfl (fun _ => ?_) (fun q => absurd q.symm h1)
  refine inc5 (2) dJ1_indexOfChar_4cfef_25 rfl (by decide) rfl ?_
  refine xt_goto 7 dJ1_indexOfChar_4cfef_28 rfl ?_
  refine il5 dJ1_indexOfChar_4cfef_7 ?_
  refine il3 dJ1_indexOfChar_4cfef_9 ?_
  refine xt_icmp_ge 31 dJ1_indexOfChar_4cfef_10 rfl (fun q => absurd q (by decide)) (fun _ => ?_)
  refine xt_aload_nR dJ1_indexOfChar_4cfef_13 rfl rfl ?_
  refine il5 dJ1_indexOfChar_4cfef_14 ?_
  refine xt_strB (i := 2) (v := 101) (by decide) rfl dJ1_indexOfChar_4cfef_16 ?_
  refine il4 dJ1_indexOfChar_4cfef_17 ?_
  refine xt_icmp_ne 25 dJ1_indexOfChar_4cfef_19 rfl (fun _ => ?_) (fun q => absurd q.symm h2)
  refine inc5 (3) dJ1_indexOfChar_4cfef_25 rfl (by decide) rfl ?_
  refine xt_goto 7 dJ1_indexOfChar_4cfef_28 rfl ?_
  refine il5 dJ1_indexOfChar_4cfef_7 ?_
  refine il3 dJ1_indexOfChar_4cfef_9 ?_
  refine xt_icmp_ge 31 dJ1_indexOfChar_4cfef_10 rfl (fun q => absurd q (by decide)) (fun _ => ?_)
  refine xt_aload_nR dJ1_indexOfChar_4cfef_13 rfl rfl ?_
  refine il5 dJ1_indexOfChar_4cfef_14 ?_
  refine xt_strB (i := 3) (v := 99) (by decide) rfl dJ1_indexOfChar_4cfef_16 ?_
  refine il4 dJ1_indexOfChar_4cfef_17 ?_
  refine xt_icmp_ne 25 dJ1_indexOfChar_4cfef_19 rfl (fun _ => ?_) (fun q => absurd q.symm h3)
  refine inc5 (4) dJ1_indexOfChar_4cfef_25 rfl (by decide) rfl ?_
  refine xt_goto 7 dJ1_indexOfChar_4cfef_28 rfl ?_
  refine il5 dJ1_indexOfChar_4cfef_7 ?_
  refine il3 dJ1_indexOfChar_4cfef_9 ?_
  refine xt_icmp_ge 31 dJ1_indexOfChar_4cfef_10 rfl (fun q => absurd q (by decide)) (fun _ => ?_)
  refine xt_aload_nR dJ1_indexOfChar_4cfef_13 rfl rfl ?_
  refine il5 dJ1_indexOfChar_4cfef_14 ?_
  refine xt_strB (i := 4) (v := 114) (by decide) rfl dJ1_indexOfChar_4cfef_16 ?_
  refine il4 dJ1_indexOfChar_4cfef_17 ?_
  refine xt_icmp_ne 25 dJ1_indexOfChar_4cfef_19 rfl (fun _ => ?_) (fun q => absurd q.symm h4)
  refine inc5 (5) dJ1_indexOfChar_4cfef_25 rfl (by decide) rfl ?_
  refine xt_goto 7 dJ1_indexOfChar_4cfef_28 rfl ?_
  refine il5 dJ1_indexOfChar_4cfef_7 ?_
  refine il3 dJ1_indexOfChar_4cfef_9 ?_
  refine xt_icmp_ge 31 dJ1_indexOfChar_4cfef_10 rfl (fun _ => ?_) (fun q => absurd (by decide) q)
  refine xt_iconst (-1) dJ1_indexOfChar_4cfef_31 rfl ?_
  exact xt_iret dJ1_indexOfChar_4cfef_32 rfl (lb rfl) (lb rfl) ⟨by unfold kdV; rw [if_neg h0, if_neg h1, if_neg h2, if_neg h3, if_neg h4], rfl, rfl⟩
set_option maxHeartbeats 400000 in
set_option maxRecDepth 100000 in
theorem cs_indexOfL {h : ax_H} {n : Nat} {x : Int32} (hx : 32 ≤ x ∧ x ≤ 126) (l : Launch) (G : va_G) (cy : ax_Y) (bs : Nat) : ax_CM l G cy bs yJ1_indexOf_4cfef cJ1_indexOf_4cfef 4 (some .int) 1 0 0 [.retAddr cy.2.2.1, .int x, .int 0, .int 5] h n (ki (kdV x) h n) := by
  refine ax_CM.go RJ1 "indexOf" [some (.retAddr cy.2.2.1), some (.int x), some (.int 0), some (.int 5)] rfl rfl pn_J1 (lb rfl) rfl ?_
  refine il1 dJ1_indexOf_4cfef_0 ?_
  refine xt_callS (as := [.int (x)]) (cs_canEncode hx l G cy bs) sjc_J1_canEncode_9a6ad sj_i1 sjs_J1_canEncode_9a6ad (Or.inl mb325) sjd_J1_canEncode_9a6ad ⟨lb rfl, lb rfl⟩ ⟨lb rfl, lb rfl⟩ (lb rfl) rfl dJ1_indexOf_4cfef_1 (ki_k ?_)
  refine xt_if_ne 9 dJ1_indexOf_4cfef_4 rfl (fun _ => ?_) (fun q => absurd q (by decide))
  refine il2 dJ1_indexOf_4cfef_9 ?_
  refine xt_iconst (0) dJ1_indexOf_4cfef_10 rfl ?_
  refine s_J1_92 dJ1_indexOf_4cfef_11 ⟨lb rfl, lb rfl, lb rfl, lb rfl⟩ ?_
  refine xt_eqv (0) (by decide) ?_
  refine is2 dJ1_indexOf_4cfef_14 (by decide) rfl ?_
  refine il3 dJ1_indexOf_4cfef_15 ?_
  refine xt_aload_nR dJ1_indexOf_4cfef_16 rfl rfl ?_
  refine xt_strL dJ1_indexOf_4cfef_17 ?_
  refine s_J1_38 dJ1_indexOf_4cfef_18 ⟨lb rfl, lb rfl, lb rfl, lb rfl⟩ ?_
  refine xt_eqv (5) (by decide) ?_
  refine is3 dJ1_indexOf_4cfef_21 (by decide) rfl ?_
  refine il2 dJ1_indexOf_4cfef_22 ?_
  refine il3 dJ1_indexOf_4cfef_23 ?_
  refine xt_icmp_lt 29 dJ1_indexOf_4cfef_24 rfl (fun _ => ?_) (fun q => absurd (by decide) q)
  refine xt_aload_nR dJ1_indexOf_4cfef_29 rfl rfl ?_
  refine il1 dJ1_indexOf_4cfef_30 ?_
  refine il2 dJ1_indexOf_4cfef_31 ?_
  refine il3 dJ1_indexOf_4cfef_32 ?_
  refine xt_callS (as := [.retAddr cy.2.2.1, .int (x), .int ((0)), .int ((5))]) (cs_indexOfChar hx l G cy bs) sjc_J1_indexOfChar_4cfef sj_i1 sjs_J1_indexOfChar_4cfef (Or.inl mb334) sjd_J1_indexOfChar_4cfef ⟨lb rfl, lb rfl⟩ ⟨lb rfl, lb rfl⟩ (lb rfl) rfl dJ1_indexOf_4cfef_33 (ki_k ?_)
  exact xt_iret dJ1_indexOf_4cfef_36 rfl (lb rfl) (lb rfl) ⟨rfl, rfl, rfl⟩
set_option maxHeartbeats 400000 in
set_option maxRecDepth 100000 in
theorem cs_indexOf2 {h : ax_H} {n : Nat} {x : Int32} (hx : 32 ≤ x ∧ x ≤ 126) (l : Launch) (G : va_G) (cy : ax_Y) (bs : Nat) : ax_CM l G cy bs yJ0_indexOf_7cf53 cJ0_indexOf_7cf53 3 (some .int) 6 0 0 [.retAddr cy.2.1, .int x, .int 0] h n (ki (kdV x) h n) := by
  refine ax_CM.go RJ0 "indexOf" [some (.retAddr cy.2.1), some (.int x), some (.int 0)] rfl rfl pn_J0 (lb rfl) rfl ?_
  refine xt_aload_nR dJ0_indexOf_7cf53_0 rfl rfl ?_
  refine xt_callVR (as := []) (cs_isLatin1 l G cy bs) rfl sjc_J0_isLatin1_aae02 sj_i0 sjm_J0_isLatin1_aae02 sjl_J0_isLatin1_aae02 mb308 sjd_J0_isLatin1_aae02 ⟨lb rfl, lb rfl⟩ ⟨lb rfl, lb rfl⟩ (lb rfl) rfl dJ0_indexOf_7cf53_1 (ki_k ?_)
  refine xt_if_eq 23 dJ0_indexOf_7cf53_4 rfl (fun q => absurd q (by decide)) (fun _ => ?_)
  refine xt_aload_nR dJ0_indexOf_7cf53_7 rfl rfl ?_
  refine xt_strV dJ0_indexOf_7cf53_8 ?_
  refine il1 dJ0_indexOf_7cf53_11 ?_
  refine il2 dJ0_indexOf_7cf53_12 ?_
  refine xt_aload_nR dJ0_indexOf_7cf53_13 rfl rfl ?_
  refine xt_callVR (as := []) (cs_length l G cy bs) rfl sjc_J0_length_8abf5 sj_i0 sjm_J0_length_8abf5 sjl_J0_length_8abf5 mb314 sjd_J0_length_8abf5 ⟨lb rfl, lb rfl⟩ ⟨lb rfl, lb rfl⟩ (lb rfl) rfl dJ0_indexOf_7cf53_14 (ki_k ?_)
  refine xt_callS (as := [.retAddr cy.2.2.1, .int (x), .int ((0)), .int ((5))]) (cs_indexOfL hx l G cy bs) sjc_J1_indexOf_4cfef sj_i1 sjs_J1_indexOf_4cfef (Or.inl mb322) sjd_J1_indexOf_4cfef ⟨lb rfl, lb rfl⟩ ⟨lb rfl, lb rfl⟩ (lb rfl) rfl dJ0_indexOf_7cf53_17 (ki_k ?_)
  refine xt_goto 36 dJ0_indexOf_7cf53_20 rfl ?_
  exact xt_iret dJ0_indexOf_7cf53_36 rfl (lb rfl) (lb rfl) ⟨rfl, rfl, rfl⟩
set_option maxHeartbeats 400000 in
set_option maxRecDepth 100000 in
theorem cs_indexOf {h : ax_H} {n : Nat} {x : Int32} (hx : 32 ≤ x ∧ x ≤ 126) (l : Launch) (G : va_G) (cy : ax_Y) (bs : Nat) : ax_CM l G cy bs yJ0_indexOf_0f7a4 cJ0_indexOf_0f7a4 2 (some .int) 7 0 0 [.retAddr cy.2.1, .int x] h n (ki (kdV x) h n) := by
  refine ax_CM.go RJ0 "indexOf" [some (.retAddr cy.2.1), some (.int x)] rfl rfl pn_J0 (lb rfl) rfl ?_
  refine xt_aload_nR dJ0_indexOf_0f7a4_0 rfl rfl ?_
  refine il1 dJ0_indexOf_0f7a4_1 ?_
  refine xt_iconst (0) dJ0_indexOf_0f7a4_2 rfl ?_
  refine xt_callVR (as := [.int (x), .int ((0))]) (cs_indexOf2 hx l G cy bs) rfl sjc_J0_indexOf_7cf53 sj_i0 sjm_J0_indexOf_7cf53 sjl_J0_indexOf_7cf53 mb304 sjd_J0_indexOf_7cf53 ⟨lb rfl, lb rfl⟩ ⟨lb rfl, lb rfl⟩ (lb rfl) rfl dJ0_indexOf_0f7a4_3 (ki_k ?_)
  exact xt_iret dJ0_indexOf_0f7a4_6 rfl (lb rfl) (lb rfl) ⟨rfl, rfl, rfl⟩
