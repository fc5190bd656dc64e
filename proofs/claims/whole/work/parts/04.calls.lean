section AXC
variable {l : Launch} {G : va_G} {cy : ax_Y} {b : Nat} {R : Room} {own nm : String} {cc : ByteArray} {nL : Nat} {ret : Option FieldType} {K : Option Value → ax_H → Nat → Prop} {mc ms pc : Nat} {lv : List (Option Value)} {st : List Value} {h : ax_H} {n cells slots : Nat}
variable {y : MethodName} {bytes : ByteArray} {maxL : Nat} {ret2 : Option FieldType} {d mc2 ms2 index : Nat} {K2 : Option Value → ax_H → Nat → Prop} {as st0 : List Value}
theorem ax_good (h : Cond.code y bytes maxL ret2 ∈ ax_Tb) : GoodIn ax_Tb (Cond.code y bytes maxL ret2 :: ax_Tb) := by
  intro w hw
  have hm : w ∈ ax_Tb := by
    rcases List.mem_cons.mp hw with q | q
    · rw [q]; exact h
    · exact q
  exact ⟨hm, good_of_word (List.mem_filter.mp hm).2⟩
def ax_Pc (G : va_G) (cy : ax_Y) (b n : Nat) (h : ax_H) (as : List Value) : Array Value → State → Prop := fun a U => a = (as.map (ax_v b)).toArray ∧ b ≤ U.heap.size ∧ ax_Rep G cy b n h U.heap ∧ ax_K G cy b U
theorem ax_blind : FrameBlind (ax_Pc G cy b n h as) := fun a U g mk q => ⟨q.1, q.2.1, q.2.2.1, q.2.2.2.call⟩
theorem ax_pre {s : State} {H : Heap} {locs : List Loc} (hK : ax_K G cy b s) (hRp : ax_Rep G cy b n h H) (hS : va_S (fun q => b ≤ q) s.heap H locs) (hb : b ≤ s.heap.size) (U : State) (hU : U.heap = H) (hW : s.WarmedH U.vm) : ax_Pc G cy b n h as (as.map (ax_v b)).toArray U :=
  ⟨rfl, by rw [hU]; exact Nat.le_trans hb hS.1, by rw [hU]; exact hRp, hK.moved hW (fun q q1 q2 => by rw [hU]; exact hS.2.1 q q1 q2)⟩
theorem ax_after {p : Program} {e : Env} {s : State} {m : MethodId} {args : Array Value} {below : List Frame} {meth : Method} {c : Code} {Q : State → Prop} {H : Heap} {locs : List Loc} {ls : Array Slot} {stc : List Value} {a : Array Value} (E : ax_Ev p s m args meth c own nm cc nL ret) (hK : ax_K G cy b s) (hR : ax_Rok p l e R s m args below meth c G cy b cc ret K mc ms Q) (hS : va_S (fun q => b ≤ q) s.heap H locs) (hb : b ≤ s.heap.size) (hl : ax_hasL b ls nL lv)
    (hr : va_Run p l e R s m args below meth c H locs cells slots mc2 ms2 (F0 m pc ls stc) (st.map (ax_v b)) ((fun (_ : Array Value) (st : State) (o : Outcome) (t : State) => ∃ (v : Option Value) (h' : ax_H) (n' : Nat), o = .returned (v.map (ax_v b)) ∧ K2 v h' n' ∧ ax_Rep G cy b n' h' t.heap ∧ st.heap.size ≤ t.heap.size ∧ ∀ q : Nat, q < st.heap.size → ¬ b ≤ q → t.heap[q]? = st.heap[q]?) a) (fun q => b ≤ q))
    (kk : ∀ v h' n', K2 v h' n' → ax_T l G cy b R own nm cc nL ret K mc ms (pc + 3) lv (v.toList ++ st) h' n' (cells + mc2) (slots + ms2)) : W p l e R s m args below meth c H locs cells slots Q (F0 m pc ls stc) := by
  intro T hT X
  obtain ⟨v, st₀, t, T', L, h0, X', hL, e1, e2, ⟨v', h', n', hv, hKv, hRp', hz, hk⟩, stp⟩ := hr T hT X
  have hv : v = v'.map (ax_v b) := Outcome.returned.inj hv
  subst hv
  rw [h0] at hz hk
  obtain ⟨t2, a1, b1⟩ := kk v' h' n' hKv p e s m args below meth c Q T'.heap (locs ++ L) ls E hK hR (by rw [e1]; exact hRp')
    ⟨Nat.le_trans hS.1 (by rw [e1]; exact hz), fun q h1 h2 => by rw [e1, hk q (Nat.lt_of_lt_of_le h1 hS.1) h2]; exact hS.2.1 q h1 h2, fun q hq => by
      rcases List.mem_append.mp hq with h | h
      · exact hS.2.2 q h
      · exact hL q h⟩ hb hl T' rfl X'
  refine ⟨t2, stp t2 ?_, b1⟩
  have e3 : (v'.toList ++ st).map (ax_v b) = (v'.map (ax_v b)).toList ++ st.map (ax_v b) := by cases v' <;> rfl
  rw [e3] at a1
  exact a1
theorem ax_h8 {st : List Value} (b : Nat) (h8 : (st.map fun v => v.category).sum ≤ 8) : ((st.map (ax_v b)).map fun v => v.category).sum ≤ 8 := by
  rw [List.map_map]
  rw [show ((fun v : Value => v.category) ∘ ax_v b) = (fun v : Value => v.category) from funext fun v => ax_vcat' b v]
  exact h8
theorem xt_callS (hC : ax_CM l G cy b y bytes maxL ret2 d mc2 ms2 as h n K2) (hcode : Cond.code y bytes maxL ret2 ∈ ax_Tb) (hini : Cond.initialized y.cls ∈ ax_Tb) (hstat : Cond.static y ∈ ax_Tb) (hlink : Cond.methodLink own index y ∈ ax_Tb ∨ ∃ host, Cond.methodLinkNest own index y host ∈ ax_Nw) (hde : y.cls ≠ "java/lang/invoke/MethodHandle" ∧ y.cls ≠ "java/lang/invoke/VarHandle" ∧ (parseMethodDescriptor y.desc).map (fun d => d.parameters.length) = some as.length) (hRm : d + 1 ≤ R.frames ∧ 8 + (maxL + 11) + 34 * d ≤ R.locals) (hm : cells + mc2 ≤ R.cells ∧ slots + ms2 ≤ R.slots) (h8 : (st.map fun v => v.category).sum ≤ 8) (hst : st0 = as.reverse ++ st) (hd : decode cc pc = .ok (.invokestatic index, 3)) (kk : ∀ v h' n', K2 v h' n' → ax_T l G cy b R own nm cc nL ret K mc ms (pc + 3) lv (v.toList ++ st) h' n' (cells + mc2) (slots + ms2)) : ax_T l G cy b R own nm cc nL ret K mc ms pc lv st0 h n cells slots := by
  intro p e s m args below meth c Q H locs ls E hK hR hRp hS hb hl
  have hts := E.2.2.2.2.1
  subst hst
  have e1 : (as.reverse ++ st).map (ax_v b) = (as.map (ax_v b)).reverse ++ st.map (ax_v b) := by rw [List.map_append, List.map_reverse]
  have hp : PreS s H (ax_Pc G cy b n h as) (as.map (ax_v b)) := ⟨ax_blind, fun U hU hW => ax_pre hK hRp hS hb U hU hW⟩
  rcases hlink with hlink | ⟨host, hlink⟩
  · have cw : CallB R s args own index y bytes maxL ret2 (Cond.code y bytes maxL ret2 :: ax_Tb) (ax_rm d mc2 ms2) mc2 ms2 as.length ∧ (Cond.static y).before args s = true := ⟨callB_of as.length hts (ax_good hcode) rfl rfl rfl (hts _ hini) (hts _ hlink) hde hRm, hts _ hstat⟩
    exact ax_after (a := #[]) E hK hR hS hb hl (va_runS ⟨E.1, E.2.1, E.2.2.1, E.2.2.2.1, hts⟩ hC cw hp rfl (by rw [List.length_map]) hl.1 e1 (lv_room (ax_h8 b h8)) hd hm) kk
  · have cw : va_CN R s args own index y host bytes maxL ret2 (Cond.code y bytes maxL ret2 :: ax_Tb) (ax_rm d mc2 ms2) mc2 ms2 as.length ∧ (Cond.static y).before args s = true ∧ True := ⟨va_cnB as.length hts (ax_good hcode) rfl rfl rfl (hK.2.1 _ hlink) (hts _ hini) hde hRm, hts _ hstat, trivial⟩
    exact ax_after (a := #[]) E hK hR hS hb hl (va_runSN ⟨E.1, E.2.1, E.2.2.1, E.2.2.2.1, hts⟩ hC cw hp rfl (by rw [List.length_map]) hl.1 e1 (lv_room (ax_h8 b h8)) hd hm) kk
theorem xt_callV {o ci : Nat} {fs : List Value} {q : vw_C} (hC : ax_CM l G cy b y bytes maxL ret2 d mc2 ms2 (.ref o :: as) h n K2) (ho : h o = some (.inr (ci, fs))) (hc : vwCl[ci]? = some q) (hq : q.1 = y.cls) (hcode : Cond.code y bytes maxL ret2 ∈ ax_Tb) (hini : Cond.initialized y.cls ∈ ax_Tb) (hinst : Cond.instanceMethod y ∈ ax_Tb) (hsel : Cond.selects y.cls y y ∈ ax_Tb) (hlink : Cond.methodLink own index y ∈ ax_Tb ∨ ∃ host, Cond.methodLinkNest own index y host ∈ ax_Nw) (hde : y.cls ≠ "java/lang/invoke/MethodHandle" ∧ y.cls ≠ "java/lang/invoke/VarHandle" ∧ (parseMethodDescriptor y.desc).map (fun d => d.parameters.length) = some as.length) (hRm : d + 1 ≤ R.frames ∧ 8 + (maxL + 11) + 34 * d ≤ R.locals) (hm : cells + mc2 ≤ R.cells ∧ slots + ms2 ≤ R.slots) (h8 : (st.map fun v => v.category).sum ≤ 8) (hst : st0 = as.reverse ++ .ref o :: st) (hd : decode cc pc = .ok (.invokevirtual index, 3)) (kk : ∀ v h' n', K2 v h' n' → ax_T l G cy b R own nm cc nL ret K mc ms (pc + 3) lv (v.toList ++ st) h' n' (cells + mc2) (slots + ms2)) : ax_T l G cy b R own nm cc nL ret K mc ms pc lv st0 h n cells slots := by
  intro p e s m args below meth c Q H locs ls E hK hR hRp hS hb hl
  have hts := E.2.2.2.2.1
  subst hst
  have e1 : (as.reverse ++ .ref o :: st).map (ax_v b) = (as.map (ax_v b)).reverse ++ .ref (b + o) :: st.map (ax_v b) := by rw [List.map_append, List.map_reverse]; rfl
  have hrec : ∃ cellB : Cell, H[b + o]? = some cellB ∧ cellB.vm.isStatics = false ∧ s.vm.findClass y.cls = some cellB.cls := by
    obtain ⟨q', h1, cell, g1, g2, g3, -⟩ := hRp.2 o _ ho
    refine ⟨cell, g1, by rw [g3]; rfl, ?_⟩
    rw [g2, ← hq]
    exact (hK.1.1 ci q hc).2.1
  have hp : PreV s H y.cls (b + o) (ax_Pc G cy b n h (.ref o :: as)) (as.map (ax_v b)) := ⟨ax_blind, hrec, fun U hU hW => ax_pre (as := .ref o :: as) hK hRp hS hb U hU hW⟩
  rcases hlink with hlink | ⟨host, hlink⟩
  · have cw : CallW R s args own y.cls index y bytes maxL ret2 (Cond.code y bytes maxL ret2 :: ax_Tb) (ax_rm d mc2 ms2) mc2 ms2 as.length := ⟨callB_of as.length hts (ax_good hcode) rfl rfl rfl (hts _ hini) (hts _ hlink) hde hRm, hts _ hinst, hts _ hsel⟩
    exact ax_after (a := #[]) E hK hR hS hb hl (va_runV ⟨E.1, E.2.1, E.2.2.1, E.2.2.2.1, hts⟩ hC cw hp rfl (by rw [List.length_map]) hl.1 e1 (lv_room (ax_h8 b h8)) hd hm) kk
  · have cw : va_CN R s args own index y host bytes maxL ret2 (Cond.code y bytes maxL ret2 :: ax_Tb) (ax_rm d mc2 ms2) mc2 ms2 as.length ∧ (Cond.instanceMethod y).before args s = true ∧ (Cond.selects y.cls y y).before args s = true := ⟨va_cnB as.length hts (ax_good hcode) rfl rfl rfl (hK.2.1 _ hlink) (hts _ hini) hde hRm, hts _ hinst, hts _ hsel⟩
    exact ax_after (a := #[]) E hK hR hS hb hl (va_runVN ⟨E.1, E.2.1, E.2.2.1, E.2.2.2.1, hts⟩ hC cw hp rfl (by rw [List.length_map]) hl.1 e1 (lv_room (ax_h8 b h8)) hd hm) kk
theorem xt_callI {o : Nat} (hC : ax_CM l G cy b y bytes maxL none d mc2 ms2 (.ref o :: as) h n K2) (hnm : y.name = "<init>") (hcode : Cond.code y bytes maxL none ∈ ax_Tb) (hini : Cond.initialized y.cls ∈ ax_Tb) (hinst : Cond.instanceMethod y ∈ ax_Tb) (hlink : Cond.methodLink own index y ∈ ax_Tb ∨ ∃ host, Cond.methodLinkNest own index y host ∈ ax_Nw) (hde : y.cls ≠ "java/lang/invoke/MethodHandle" ∧ y.cls ≠ "java/lang/invoke/VarHandle" ∧ (parseMethodDescriptor y.desc).map (fun d => d.parameters.length) = some as.length) (hRm : d + 1 ≤ R.frames ∧ 8 + (maxL + 11) + 34 * d ≤ R.locals) (hm : cells + mc2 ≤ R.cells ∧ slots + ms2 ≤ R.slots) (h8 : (st.map fun v => v.category).sum ≤ 8) (hst : st0 = as.reverse ++ .ref o :: st) (hd : decode cc pc = .ok (.invokespecial index, 3)) (kk : ∀ v h' n', K2 v h' n' → ax_T l G cy b R own nm cc nL ret K mc ms (pc + 3) lv (v.toList ++ st) h' n' (cells + mc2) (slots + ms2)) : ax_T l G cy b R own nm cc nL ret K mc ms pc lv st0 h n cells slots := by
  intro p e s m args below meth c Q H locs ls E hK hR hRp hS hb hl
  have hts := E.2.2.2.2.1
  subst hst
  have e1 : (as.reverse ++ .ref o :: st).map (ax_v b) = (as.map (ax_v b)).reverse ++ .ref (b + o) :: st.map (ax_v b) := by rw [List.map_append, List.map_reverse]; rfl
  have hp : PreS s H (ax_Pc G cy b n h (.ref o :: as)) (.ref (b + o) :: as.map (ax_v b)) := ⟨ax_blind, fun U hU hW => ax_pre (as := .ref o :: as) hK hRp hS hb U hU hW⟩
  rcases hlink with hlink | ⟨host, hlink⟩
  · have cw : CallB R s args own index y bytes maxL none (Cond.code y bytes maxL none :: ax_Tb) (ax_rm d mc2 ms2) mc2 ms2 as.length ∧ y.name = "<init>" ∧ (Cond.instanceMethod y).before args s = true := ⟨callB_of as.length hts (ax_good hcode) rfl rfl rfl (hts _ hini) (hts _ hlink) hde hRm, hnm, hts _ hinst⟩
    exact ax_after (a := #[]) E hK hR hS hb hl (va_runI ⟨E.1, E.2.1, E.2.2.1, E.2.2.2.1, hts⟩ hC cw hp rfl (by rw [List.length_map]) hl.1 e1 (lv_room (ax_h8 b h8)) hd hm) kk
  · have cw : va_CN R s args own index y host bytes maxL none (Cond.code y bytes maxL none :: ax_Tb) (ax_rm d mc2 ms2) mc2 ms2 as.length ∧ y.name = "<init>" ∧ (Cond.instanceMethod y).before args s = true := ⟨va_cnB as.length hts (ax_good hcode) rfl rfl rfl (hK.2.1 _ hlink) (hts _ hini) hde hRm, hnm, hts _ hinst⟩
    exact ax_after (a := #[]) E hK hR hS hb hl (va_runIN ⟨E.1, E.2.1, E.2.2.1, E.2.2.2.1, hts⟩ hC cw hp rfl (by rw [List.length_map]) hl.1 e1 (lv_room (ax_h8 b h8)) hd hm) kk
/-- Object.<init> -/
theorem xt_objI {o : Nat} (hlink : Cond.methodLink own index objectInit ∈ ax_Tb) (hinst : Cond.instanceMethod objectInit ∈ ax_Tb) (hcode : Cond.code objectInit ⟨#[0xb1]⟩ 1 none ∈ ax_Tb) (hRm : 1 ≤ R.frames ∧ 20 ≤ R.locals) (h8 : (st.map fun v => v.category).sum ≤ 8) (hd : decode cc pc = .ok (.invokespecial index, 3)) (k : ax_T l G cy b R own nm cc nL ret K mc ms (pc + 3) lv st h n cells slots) : ax_T l G cy b R own nm cc nL ret K mc ms pc lv (.ref o :: st) h n cells slots := by
  intro p e s m args below meth c Q H locs ls E hK hR hRp hS hb hl
  have hts := E.2.2.2.2.1
  refine W.objInit E.1 E.2.1 E.2.2.2.1 (hts _ hlink) (hts _ hinst) (hts _ hcode) rfl (by rw [E.2.2.1]; exact hl.1) rfl hd hRm.1 ?_ (k p e s m args below meth c Q H locs ls E hK hR hRp hS hb hl)
  have := ax_h8 b h8
  have h2 := hRm.2
  show 2 * 0 + _ + 12 ≤ _
  omega
theorem xt_mmax {x y : Int32} (hlink : Cond.methodLink own index Lib.Math.max.name ∈ ax_Tb) (hstat : Cond.static Lib.Math.max.name ∈ ax_Tb) (hini : Cond.initialized "java/lang/Math" ∈ ax_Tb) (hcode : Cond.code Lib.Math.max.name Lib.Math.max.code 2 (some .int) ∈ ax_Tb) (hRm : 1 ≤ R.frames ∧ 21 ≤ R.locals ∧ cells ≤ R.cells ∧ slots ≤ R.slots) (h8 : (st.map fun v => v.category).sum ≤ 8) (hd : decode cc pc = .ok (.invokestatic index, 3)) (k : ax_T l G cy b R own nm cc nL ret K mc ms (pc + 3) lv (.int (if x < y then y else x) :: st) h n cells slots) : ax_T l G cy b R own nm cc nL ret K mc ms pc lv (.int y :: .int x :: st) h n cells slots := by
  intro p e s m args below meth c Q H locs ls E hK hR hRp hS hb hl
  have hts := E.2.2.2.2.1
  have h9 := ax_h8 b h8
  have h2 := hRm.2.1
  exact va_mmax E.1 E.2.1 (by rw [E.2.2.1]; exact hl.1.symm) E.2.2.2.1 (hts _ hlink) (hts _ hstat) (hts _ hini) (hts _ hcode) hRm.1 (by omega) hRm.2.2.1 hRm.2.2.2 hd (k p e s m args below meth c Q H locs ls E hK hR hRp hS hb hl)
theorem xt_mmin {x y : Int32} (hlink : Cond.methodLink own index Lib.Math.min.name ∈ ax_Tb) (hstat : Cond.static Lib.Math.min.name ∈ ax_Tb) (hini : Cond.initialized "java/lang/Math" ∈ ax_Tb) (hcode : Cond.code Lib.Math.min.name Lib.Math.min.code 2 (some .int) ∈ ax_Tb) (hRm : 1 ≤ R.frames ∧ 21 ≤ R.locals ∧ cells ≤ R.cells ∧ slots ≤ R.slots) (h8 : (st.map fun v => v.category).sum ≤ 8) (hd : decode cc pc = .ok (.invokestatic index, 3)) (k : ax_T l G cy b R own nm cc nL ret K mc ms (pc + 3) lv (.int (if y < x then y else x) :: st) h n cells slots) : ax_T l G cy b R own nm cc nL ret K mc ms pc lv (.int y :: .int x :: st) h n cells slots := by
  intro p e s m args below meth c Q H locs ls E hK hR hRp hS hb hl
  have hts := E.2.2.2.2.1
  have h9 := ax_h8 b h8
  have h2 := hRm.2.1
  exact va_mmin E.1 E.2.1 (by rw [E.2.2.1]; exact hl.1.symm) E.2.2.2.1 (hts _ hlink) (hts _ hstat) (hts _ hini) (hts _ hcode) hRm.1 (by omega) hRm.2.2.1 hRm.2.2.2 hd (k p e s m args below meth c Q H locs ls E hK hR hRp hS hb hl)
theorem xt_mabs {x y : Int32} (hlink : Cond.methodLink own index Lib.Math.abs.name ∈ ax_Tb) (hstat : Cond.static Lib.Math.abs.name ∈ ax_Tb) (hini : Cond.initialized "java/lang/Math" ∈ ax_Tb) (hcode : Cond.code Lib.Math.abs.name Lib.Math.abs.code 1 (some .int) ∈ ax_Tb) (hRm : 1 ≤ R.frames ∧ 21 ≤ R.locals ∧ cells ≤ R.cells ∧ slots ≤ R.slots) (h8 : (st.map fun v => v.category).sum ≤ 8) (hd : decode cc pc = .ok (.invokestatic index, 3)) (k : ax_T l G cy b R own nm cc nL ret K mc ms (pc + 3) lv (.int (if 0 ≤ x then x else 0 - x) :: st) h n cells slots) : ax_T l G cy b R own nm cc nL ret K mc ms pc lv (.int x :: st) h n cells slots := by
  intro p e s m args below meth c Q H locs ls E hK hR hRp hS hb hl
  have hts := E.2.2.2.2.1
  have h9 := ax_h8 b h8
  have h2 := hRm.2.1
  exact va_mabs E.1 E.2.1 (by rw [E.2.2.1]; exact hl.1.symm) E.2.2.2.1 (hts _ hlink) (hts _ hstat) (hts _ hini) (hts _ hcode) hRm.1 (by omega) hRm.2.2.1 hRm.2.2.2 hd (k p e s m args below meth c Q H locs ls E hK hR hRp hS hb hl)
theorem xt_copyi {i j N M : Nat} {f g : Nat → Int32} {x x2 x3 : Int32} (sp dp len : Nat) (hi : h i = some (ax_I N f)) (hj : h j = some (ax_I M g)) (hx : x = nI sp) (hx2 : x2 = nI dp) (hx3 : x3 = nI len) (hs1 : sp + len ≤ N) (hs2 : dp + len ≤ M) (hN : N < 2 ^ 31 ∧ M < 2 ^ 31)
    (hlink : Cond.methodLink own index arraycopyName ∈ ax_Tb) (hnat : Cond.native arraycopyName ∈ ax_Tb) (hstat : Cond.static arraycopyName ∈ ax_Tb) (hini : Cond.initialized "java/lang/System" ∈ ax_Tb) (hRm : 1 ≤ R.frames ∧ 8 + (nativeFrameWords "java/lang/System" "arraycopy" 5 + 11) ≤ R.locals) (h8 : (st.map fun v => v.category).sum ≤ 8) (hd : decode cc pc = .ok (.invokestatic index, 3))
    (kk : ax_T l G cy b R own nm cc nL ret K mc ms (pc + 3) lv st (hp h j (ax_I M (va_cpy f g sp dp len))) n cells slots) : ax_T l G cy b R own nm cc nL ret K mc ms pc lv (.int x3 :: .int x2 :: .ref j :: .int x :: .ref i :: st) h n cells slots := by
  intro p e s m args below meth c Q H locs ls E hK hR hRp hS hb hl
  have hts := E.2.2.2.2.1
  subst hx; subst hx2; subst hx3
  have c1 : (nI sp).toNatClampNeg = sp := nI_clamp (by omega)
  have c2 : (nI dp).toNatClampNeg = dp := nI_clamp (by omega)
  have c3 : (nI len).toNatClampNeg = len := nI_clamp (by omega)
  have t1 : (nI sp).toInt = (sp : Int) := nI_toInt (by omega)
  have t2 : (nI dp).toInt = (dp : Int) := nI_toInt (by omega)
  have t3 : (nI len).toInt = (len : Int) := nI_toInt (by omega)
  intro T hT X
  have hc0 : H[b + i]? = some (vp_cell (cy.1 0) (N, (.inl f))) := hRp.2 i _ hi
  have hc1 : H[b + j]? = some (vp_cell (cy.1 0) (M, (.inl g))) := hRp.2 j _ hj
  obtain ⟨-, k0, hk0, cm0, hkk0⟩ := (hK.1.2 0 _ rfl).1 N (fun j => .int (f j))
  obtain ⟨-, k1, hk1, cm1, hkk1⟩ := (hK.1.2 0 _ rfl).1 M (fun j => .int (g j))
  have h9 := ax_h8 b h8
  have hr2 := hRm.2
  obtain ⟨vm', X', step⟩ := X.arraycopy E.1 E.2.2.2.1 (hts _ hlink) (hts _ hnat) (hts _ hstat) (hts _ hini) (src := b + i) (dst := b + j) (cs := vp_cell (cy.1 0) (N, (.inl f))) (cd := vp_cell (cy.1 0) (M, (.inl g))) (srcPos := nI sp) (destPos := nI dp) (n := nI len) (by rw [hT]; exact hc0) (by rw [hT]; exact hc1)
    (fun _ h => by cases h) (fun _ h => by cases h) (fun h => by cases h) (fun h => by cases h) hk0 hk1 hkk0 hkk1 (by simp [refKind]) (nI_pos (by omega)) (nI_pos (by omega)) (nI_pos (by omega))
    (by rw [t1, t3]; show ¬ _ > ((arrV (cy.1 0) N (fun j => .int (f j))).slots.size : Int); rw [arrV_size]; omega)
    (by rw [t2, t3]; show ¬ _ > ((arrV (cy.1 0) M (fun j => .int (g j))).slots.size : Int); rw [arrV_size]; omega)
    (fun vm₁ _ q hq => by
      rw [c3] at hq
      have e : (vp_cell (cy.1 0) (N, (.inl f))).slots.getD ((nI sp).toNatClampNeg + q) .null = .int (f (sp + q)) := by
        rw [c1]
        show (arrV (cy.1 0) N (fun j => .int (f j))).slots.getD _ _ = _
        rw [Array.getD_eq_getD_getElem?, arrV_read _ _ (by omega)]
        rfl
      refine ⟨?_, ?_⟩
      · rw [e]; first | rfl | exact rfl
      · rw [e]
        exact trivial)
    (g := F0 m pc ls ((.int (nI len) :: .int (nI dp) :: .ref (b + j) :: .int (nI sp) :: .ref (b + i) :: st.map (ax_v b)))) rfl (by rw [E.2.2.1]; exact hl.1) (rest := st.map (ax_v b)) rfl (by rw [E.2.1]; exact hd) hRm.1 (by show 2 * 0 + _ + _ ≤ _; omega)
  have e1 : copied (vp_cell (cy.1 0) (N, (.inl f))) (vp_cell (cy.1 0) (M, (.inl g))) (nI sp) (nI dp) (nI len) = vp_cell (cy.1 0) (M, (.inl (va_cpy f g sp dp len))) := by
    rw [show va_cpy f g sp dp len = va_cpy f g (nI sp).toNatClampNeg (nI dp).toNatClampNeg (nI len).toNatClampNeg by rw [c1, c2, c3]]
    exact va_copied (fun z => .int z) (cy.1 0) (cy.1 0) f g (by rw [c1, c3]; exact hs1)
  rw [e1] at X' step
  have hlt : b + j < H.size := (Array.getElem?_eq_some_iff.mp hc1).1
  have hheap : ((T.setVm vm').setCell (b + j) (vp_cell (cy.1 0) (M, (.inl (va_cpy f g sp dp len))))).heap = H.setIfInBounds (b + j) (vp_cell (cy.1 0) (M, (.inl (va_cpy f g sp dp len)))) := by rw [← hT]; rfl
  have oq : ∀ q : Nat, q ≠ b + j → (H.setIfInBounds (b + j) (vp_cell (cy.1 0) (M, (.inl (va_cpy f g sp dp len)))))[q]? = H[q]? := fun q hq => by simp [Array.getElem?_setIfInBounds, Ne.symm hq]
  obtain ⟨t, a1, b1⟩ := kk p e s m args below meth c Q _ _ ls E hK hR (hRp.set (H1 := H.setIfInBounds (b + j) (vp_cell (cy.1 0) (M, (.inl (va_cpy f g sp dp len))))) (by simp) (show (H.setIfInBounds (b + j) _)[b + j]? = some _ by simp [Array.getElem?_setIfInBounds, hlt]; rfl) oq)
    ⟨by simp; exact hS.1, fun q g1 g2 => by
      rw [oq q (fun e => g2 (by rw [e]; omega))]
      exact hS.2.1 q g1 g2, fun q hq => by
      rcases List.mem_append.mp hq with h | h
      · exact hS.2.2 q h
      · obtain ⟨z, -, hz⟩ := List.mem_map.mp h
        rw [← hz]
        show b ≤ b + j
        omega⟩ hb hl _ hheap X'
  exact ⟨t, step t a1, b1⟩
theorem xt_copyl {i j N M : Nat} {f g : Nat → Int64} {x x2 x3 : Int32} (sp dp len : Nat) (hi : h i = some (ax_L N f)) (hj : h j = some (ax_L M g)) (hx : x = nI sp) (hx2 : x2 = nI dp) (hx3 : x3 = nI len) (hs1 : sp + len ≤ N) (hs2 : dp + len ≤ M) (hN : N < 2 ^ 31 ∧ M < 2 ^ 31)
    (hlink : Cond.methodLink own index arraycopyName ∈ ax_Tb) (hnat : Cond.native arraycopyName ∈ ax_Tb) (hstat : Cond.static arraycopyName ∈ ax_Tb) (hini : Cond.initialized "java/lang/System" ∈ ax_Tb) (hRm : 1 ≤ R.frames ∧ 8 + (nativeFrameWords "java/lang/System" "arraycopy" 5 + 11) ≤ R.locals) (h8 : (st.map fun v => v.category).sum ≤ 8) (hd : decode cc pc = .ok (.invokestatic index, 3))
    (kk : ax_T l G cy b R own nm cc nL ret K mc ms (pc + 3) lv st (hp h j (ax_L M (va_cpy f g sp dp len))) n cells slots) : ax_T l G cy b R own nm cc nL ret K mc ms pc lv (.int x3 :: .int x2 :: .ref j :: .int x :: .ref i :: st) h n cells slots := by
  intro p e s m args below meth c Q H locs ls E hK hR hRp hS hb hl
  have hts := E.2.2.2.2.1
  subst hx; subst hx2; subst hx3
  have c1 : (nI sp).toNatClampNeg = sp := nI_clamp (by omega)
  have c2 : (nI dp).toNatClampNeg = dp := nI_clamp (by omega)
  have c3 : (nI len).toNatClampNeg = len := nI_clamp (by omega)
  have t1 : (nI sp).toInt = (sp : Int) := nI_toInt (by omega)
  have t2 : (nI dp).toInt = (dp : Int) := nI_toInt (by omega)
  have t3 : (nI len).toInt = (len : Int) := nI_toInt (by omega)
  intro T hT X
  have hc0 : H[b + i]? = some (vp_cell (cy.1 1) (N, (.inr (.inl f)))) := hRp.2 i _ hi
  have hc1 : H[b + j]? = some (vp_cell (cy.1 1) (M, (.inr (.inl g)))) := hRp.2 j _ hj
  obtain ⟨-, k0, hk0, cm0, hkk0⟩ := (hK.1.2 1 _ rfl).1 N (fun j => .long (f j))
  obtain ⟨-, k1, hk1, cm1, hkk1⟩ := (hK.1.2 1 _ rfl).1 M (fun j => .long (g j))
  have h9 := ax_h8 b h8
  have hr2 := hRm.2
  obtain ⟨vm', X', step⟩ := X.arraycopy E.1 E.2.2.2.1 (hts _ hlink) (hts _ hnat) (hts _ hstat) (hts _ hini) (src := b + i) (dst := b + j) (cs := vp_cell (cy.1 1) (N, (.inr (.inl f)))) (cd := vp_cell (cy.1 1) (M, (.inr (.inl g)))) (srcPos := nI sp) (destPos := nI dp) (n := nI len) (by rw [hT]; exact hc0) (by rw [hT]; exact hc1)
    (fun _ h => by cases h) (fun _ h => by cases h) (fun h => by cases h) (fun h => by cases h) hk0 hk1 hkk0 hkk1 (by simp [refKind]) (nI_pos (by omega)) (nI_pos (by omega)) (nI_pos (by omega))
    (by rw [t1, t3]; show ¬ _ > ((arrV (cy.1 1) N (fun j => .long (f j))).slots.size : Int); rw [arrV_size]; omega)
    (by rw [t2, t3]; show ¬ _ > ((arrV (cy.1 1) M (fun j => .long (g j))).slots.size : Int); rw [arrV_size]; omega)
    (fun vm₁ _ q hq => by
      rw [c3] at hq
      have e : (vp_cell (cy.1 1) (N, (.inr (.inl f)))).slots.getD ((nI sp).toNatClampNeg + q) .null = .long (f (sp + q)) := by
        rw [c1]
        show (arrV (cy.1 1) N (fun j => .long (f j))).slots.getD _ _ = _
        rw [Array.getD_eq_getD_getElem?, arrV_read _ _ (by omega)]
        rfl
      refine ⟨?_, ?_⟩
      · rw [e]; first | rfl | exact rfl
      · rw [e]
        exact trivial)
    (g := F0 m pc ls ((.int (nI len) :: .int (nI dp) :: .ref (b + j) :: .int (nI sp) :: .ref (b + i) :: st.map (ax_v b)))) rfl (by rw [E.2.2.1]; exact hl.1) (rest := st.map (ax_v b)) rfl (by rw [E.2.1]; exact hd) hRm.1 (by show 2 * 0 + _ + _ ≤ _; omega)
  have e1 : copied (vp_cell (cy.1 1) (N, (.inr (.inl f)))) (vp_cell (cy.1 1) (M, (.inr (.inl g)))) (nI sp) (nI dp) (nI len) = vp_cell (cy.1 1) (M, (.inr (.inl (va_cpy f g sp dp len)))) := by
    rw [show va_cpy f g sp dp len = va_cpy f g (nI sp).toNatClampNeg (nI dp).toNatClampNeg (nI len).toNatClampNeg by rw [c1, c2, c3]]
    exact va_copied (fun z => .long z) (cy.1 1) (cy.1 1) f g (by rw [c1, c3]; exact hs1)
  rw [e1] at X' step
  have hlt : b + j < H.size := (Array.getElem?_eq_some_iff.mp hc1).1
  have hheap : ((T.setVm vm').setCell (b + j) (vp_cell (cy.1 1) (M, (.inr (.inl (va_cpy f g sp dp len)))))).heap = H.setIfInBounds (b + j) (vp_cell (cy.1 1) (M, (.inr (.inl (va_cpy f g sp dp len))))) := by rw [← hT]; rfl
  have oq : ∀ q : Nat, q ≠ b + j → (H.setIfInBounds (b + j) (vp_cell (cy.1 1) (M, (.inr (.inl (va_cpy f g sp dp len))))))[q]? = H[q]? := fun q hq => by simp [Array.getElem?_setIfInBounds, Ne.symm hq]
  obtain ⟨t, a1, b1⟩ := kk p e s m args below meth c Q _ _ ls E hK hR (hRp.set (H1 := H.setIfInBounds (b + j) (vp_cell (cy.1 1) (M, (.inr (.inl (va_cpy f g sp dp len)))))) (by simp) (show (H.setIfInBounds (b + j) _)[b + j]? = some _ by simp [Array.getElem?_setIfInBounds, hlt]; rfl) oq)
    ⟨by simp; exact hS.1, fun q g1 g2 => by
      rw [oq q (fun e => g2 (by rw [e]; omega))]
      exact hS.2.1 q g1 g2, fun q hq => by
      rcases List.mem_append.mp hq with h | h
      · exact hS.2.2 q h
      · obtain ⟨z, -, hz⟩ := List.mem_map.mp h
        rw [← hz]
        show b ≤ b + j
        omega⟩ hb hl _ hheap X'
  exact ⟨t, step t a1, b1⟩
/-- posts: what is answered and how the heap is behind it, told outright -/
def ki (r : Int32) (h2 : ax_H) (n2 : Nat) : Option Value → ax_H → Nat → Prop := fun v h' n' => v = some (.int r) ∧ h' = h2 ∧ n' = n2
def kl (r : Int64) (h2 : ax_H) (n2 : Nat) : Option Value → ax_H → Nat → Prop := fun v h' n' => v = some (.long r) ∧ h' = h2 ∧ n' = n2
def kv (h2 : ax_H) (n2 : Nat) : Option Value → ax_H → Nat → Prop := fun v h' n' => v = none ∧ h' = h2 ∧ n' = n2
theorem ki_k {r : Int32} {h2 : ax_H} {n2 c2 s2 : Nat} (k : ax_T l G cy b R own nm cc nL ret K mc ms pc lv (.int r :: st) h2 n2 c2 s2) : ∀ v h' n', ki r h2 n2 v h' n' → ax_T l G cy b R own nm cc nL ret K mc ms pc lv (v.toList ++ st) h' n' c2 s2 := by
  rintro v h' n' ⟨rfl, rfl, rfl⟩; exact k
theorem kl_k {r : Int64} {h2 : ax_H} {n2 c2 s2 : Nat} (k : ax_T l G cy b R own nm cc nL ret K mc ms pc lv (.long r :: st) h2 n2 c2 s2) : ∀ v h' n', kl r h2 n2 v h' n' → ax_T l G cy b R own nm cc nL ret K mc ms pc lv (v.toList ++ st) h' n' c2 s2 := by
  rintro v h' n' ⟨rfl, rfl, rfl⟩; exact k
theorem kv_k {h2 : ax_H} {n2 c2 s2 : Nat} (k : ax_T l G cy b R own nm cc nL ret K mc ms pc lv st h2 n2 c2 s2) : ∀ v h' n', kv h2 n2 v h' n' → ax_T l G cy b R own nm cc nL ret K mc ms pc lv (v.toList ++ st) h' n' c2 s2 := by
  rintro v h' n' ⟨rfl, rfl, rfl⟩; exact k
end AXC
