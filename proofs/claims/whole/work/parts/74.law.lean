/-! the law: its script, its cases, its loop -/
section AXL2
variable {l : Launch} {G : va_G} {cy : ax_Y} {b : Nat} {R : Room} {own nm : String} {cc : ByteArray} {nL : Nat} {ret : Option FieldType} {K : Option Value → ax_H → Nat → Prop} {mc ms pc : Nat} {lv : List (Option Value)} {st : List Value} {h : ax_H} {n cells slots : Nat}
theorem xt_sld {i : Int32} (q : Nat) (hx : i = nI q) (hq : q < cy.2.2.2.2.1) (hL : cy.2.2.2.2.1 < 2 ^ 31) (hd : decode cc pc = .ok (.iaload, 1)) (k : ax_T l G cy b R own nm cc nL ret K mc ms (pc + 1) lv (.int (cy.2.2.2.2.2 q) :: st) h n cells slots) : ax_T l G cy b R own nm cc nL ret K mc ms pc lv (.int i :: .retAddr cy.2.2.2.1 :: st) h n cells slots := by
  intro p e s m args below meth c Q H locs ls E hK hR hRp hS hb hl
  subst hx
  have hc : (nI q).toNatClampNeg = q := nI_clamp (by omega)
  refine va_sld E.1 E.2.1 hK.2.2.2.2.2.2.1 hK.2.2.2.2.2.2.2.1 hK.2.2.2.2.2.2.2.2 hS (nI_in hq hL) hd ?_
  rw [hc]
  exact (k p e s m args below meth c Q H locs ls E hK hR hRp hS hb hl)
theorem xt_slen (hd : decode cc pc = .ok (.arraylength, 1)) (k : ax_T l G cy b R own nm cc nL ret K mc ms (pc + 1) lv (.int (nI cy.2.2.2.2.1) :: st) h n cells slots) : ax_T l G cy b R own nm cc nL ret K mc ms pc lv (.retAddr cy.2.2.2.1 :: st) h n cells slots := by
  intro p e s m args below meth c Q H locs ls E hK hR hRp hS hb hl
  exact va_slen E.1 E.2.1 hK.2.2.2.2.2.2.1 hK.2.2.2.2.2.2.2.1 hK.2.2.2.2.2.2.2.2 hS hd (k p e s m args below meth c Q H locs ls E hK hR hRp hS hb hl)
end AXL2
set_option maxHeartbeats 1000000 in
set_option maxRecDepth 100000 in
theorem law_place {l : Launch} {G : va_G} {cy : ax_Y} {bs : Nat} {nm : String} {k n : Nat} {h : ax_H} (hL : cy.2.2.2.2.1 ≤ 3584) (hk : 7 * k + 7 ≤ cy.2.2.2.2.1) (hV : INV h) (hn : 269 ≤ n) (kk : ∀ (h3 : ax_H) (n3 : Nat), INV h3 → 269 ≤ n3 → ax_T l G cy bs room_1 RL nm cL_law 4 (some .boolean) (fun v _ _ => v = some (.int 1)) 895468 6415845 1133 [some (.retAddr cy.2.2.2.1), some (.ref 0), some (.ref 259), some (.int (nI (7 * k)))] [] h3 n3 (269 + (k + 1)) (3858 + 2 * (k + 1))) : ax_T l G cy bs room_1 RL nm cL_law 4 (some .boolean) (fun v _ _ => v = some (.int 1)) 895468 6415845 164 [some (.retAddr cy.2.2.2.1), some (.ref 0), some (.ref 259), some (.int (nI (7 * k)))] [] h n (269 + k) (3858 + 2 * k) := by
  have hL31 : cy.2.2.2.2.1 < 2 ^ 31 := by omega
  obtain ⟨ans, P, n2, hC7, hle, hC8⟩ := PR_place hV hn (cy.2.2.2.2.2 (7 * k + 1))
  obtain ⟨m0, u0, t0, im0, iu0, W0, tp0, mn0, la0, it0, hI0, aT0, nu0, ab0, be0, mv0, rd0, ms0, tk0, hM0⟩ := (id hV : INV h)
  have a0 := hI0.1
  refine al1 dL_law_164 ?_
  refine xt_aload_nR dL_law_165 rfl rfl ?_
  refine il3 dL_law_166 ?_
  refine xt_iconst (1) dL_law_167 rfl ?_
  refine xt_iadd dL_law_168 ?_
  refine xt_sld (7 * k + 1) (ne_add (a := 7 * k) (b := 1) rfl rfl) (by omega) hL31 dL_law_169 ?_
  refine sE_L_13 dL_law_170 hC7 a0 ⟨by show _ ≤ 895468; omega, by show _ ≤ 6415845; omega, lb rfl⟩ (fun h2 hP => ?_)
  refine al2 dL_law_173 ?_
  refine xt_aload_nR dL_law_174 rfl rfl ?_
  refine il3 dL_law_175 ?_
  refine xt_iconst (1) dL_law_176 rfl ?_
  refine xt_iadd dL_law_177 ?_
  refine xt_sld (7 * k + 1) (ne_add (a := 7 * k) (b := 1) rfl rfl) (by omega) hL31 dL_law_178 ?_
  obtain ⟨⟨fs8, e8⟩, hC9⟩ := hC8 h2 hP
  refine sE_L_17 dL_law_179 hC9 e8 ⟨by show _ ≤ 895468; omega, by show _ ≤ 6415845; omega, lb rfl⟩ (fun h3 hI3 => ?_)
  refine xt_icmp_eq 1133 dL_law_182 rfl (fun _ => ?_) (fun q => absurd rfl q)
  refine xt_wid (c2 := 269 + (k + 1)) (s2 := 3858 + 2 * (k + 1)) (by omega) (by omega) ?_
  exact kk h3 n2 hI3 (by omega)
set_option maxHeartbeats 1000000 in
set_option maxRecDepth 100000 in
theorem law_piece {l : Launch} {G : va_G} {cy : ax_Y} {bs : Nat} {nm : String} {k n : Nat} {h : ax_H} (hL : cy.2.2.2.2.1 ≤ 3584) (hk : 7 * k + 7 ≤ cy.2.2.2.2.1) (hV : INV h) (hn : 269 ≤ n) (kk : ∀ (h3 : ax_H) (n3 : Nat), INV h3 → 269 ≤ n3 → ax_T l G cy bs room_1 RL nm cL_law 4 (some .boolean) (fun v _ _ => v = some (.int 1)) 895468 6415845 1133 [some (.retAddr cy.2.2.2.1), some (.ref 0), some (.ref 259), some (.int (nI (7 * k)))] [] h3 n3 (269 + (k + 1)) (3858 + 2 * (k + 1))) : ax_T l G cy bs room_1 RL nm cL_law 4 (some .boolean) (fun v _ _ => v = some (.int 1)) 895468 6415845 187 [some (.retAddr cy.2.2.2.1), some (.ref 0), some (.ref 259), some (.int (nI (7 * k)))] [] h n (269 + k) (3858 + 2 * k) := by
  have hL31 : cy.2.2.2.2.1 < 2 ^ 31 := by omega
  obtain ⟨ans, P, n2, hC7, hle, hC8⟩ := PR_piece hV hn (cy.2.2.2.2.2 (7 * k + 1)) (cy.2.2.2.2.2 (7 * k + 2))
  obtain ⟨m0, u0, t0, im0, iu0, W0, tp0, mn0, la0, it0, hI0, aT0, nu0, ab0, be0, mv0, rd0, ms0, tk0, hM0⟩ := (id hV : INV h)
  have a0 := hI0.1
  refine al1 dL_law_187 ?_
  refine xt_aload_nR dL_law_188 rfl rfl ?_
  refine il3 dL_law_189 ?_
  refine xt_iconst (1) dL_law_190 rfl ?_
  refine xt_iadd dL_law_191 ?_
  refine xt_sld (7 * k + 1) (ne_add (a := 7 * k) (b := 1) rfl rfl) (by omega) hL31 dL_law_192 ?_
  refine xt_aload_nR dL_law_193 rfl rfl ?_
  refine il3 dL_law_194 ?_
  refine xt_iconst (2) dL_law_195 rfl ?_
  refine xt_iadd dL_law_196 ?_
  refine xt_sld (7 * k + 2) (ne_add (a := 7 * k) (b := 2) rfl rfl) (by omega) hL31 dL_law_197 ?_
  refine sE_L_18 dL_law_198 hC7 a0 ⟨by show _ ≤ 895468; omega, by show _ ≤ 6415845; omega, lb rfl⟩ (fun h2 hP => ?_)
  refine al2 dL_law_201 ?_
  refine xt_aload_nR dL_law_202 rfl rfl ?_
  refine il3 dL_law_203 ?_
  refine xt_iconst (1) dL_law_204 rfl ?_
  refine xt_iadd dL_law_205 ?_
  refine xt_sld (7 * k + 1) (ne_add (a := 7 * k) (b := 1) rfl rfl) (by omega) hL31 dL_law_206 ?_
  refine xt_aload_nR dL_law_207 rfl rfl ?_
  refine il3 dL_law_208 ?_
  refine xt_iconst (2) dL_law_209 rfl ?_
  refine xt_iadd dL_law_210 ?_
  refine xt_sld (7 * k + 2) (ne_add (a := 7 * k) (b := 2) rfl rfl) (by omega) hL31 dL_law_211 ?_
  obtain ⟨⟨fs8, e8⟩, hC9⟩ := hC8 h2 hP
  refine sE_L_22 dL_law_212 hC9 e8 ⟨by show _ ≤ 895468; omega, by show _ ≤ 6415845; omega, lb rfl⟩ (fun h3 hI3 => ?_)
  refine xt_icmp_eq 1133 dL_law_215 rfl (fun _ => ?_) (fun q => absurd rfl q)
  refine xt_wid (c2 := 269 + (k + 1)) (s2 := 3858 + 2 * (k + 1)) (by omega) (by omega) ?_
  exact kk h3 n2 hI3 (by omega)
set_option maxHeartbeats 1000000 in
set_option maxRecDepth 100000 in
theorem law_type {l : Launch} {G : va_G} {cy : ax_Y} {bs : Nat} {nm : String} {k n : Nat} {h : ax_H} (hL : cy.2.2.2.2.1 ≤ 3584) (hk : 7 * k + 7 ≤ cy.2.2.2.2.1) (hV : INV h) (hn : 269 ≤ n) (kk : ∀ (h3 : ax_H) (n3 : Nat), INV h3 → 269 ≤ n3 → ax_T l G cy bs room_1 RL nm cL_law 4 (some .boolean) (fun v _ _ => v = some (.int 1)) 895468 6415845 1133 [some (.retAddr cy.2.2.2.1), some (.ref 0), some (.ref 259), some (.int (nI (7 * k)))] [] h3 n3 (269 + (k + 1)) (3858 + 2 * (k + 1))) : ax_T l G cy bs room_1 RL nm cL_law 4 (some .boolean) (fun v _ _ => v = some (.int 1)) 895468 6415845 220 [some (.retAddr cy.2.2.2.1), some (.ref 0), some (.ref 259), some (.int (nI (7 * k)))] [] h n (269 + k) (3858 + 2 * k) := by
  have hL31 : cy.2.2.2.2.1 < 2 ^ 31 := by omega
  obtain ⟨ans, P, n2, hC7, hle, hC8⟩ := PR_type hV hn (cy.2.2.2.2.2 (7 * k + 1))
  obtain ⟨m0, u0, t0, im0, iu0, W0, tp0, mn0, la0, it0, hI0, aT0, nu0, ab0, be0, mv0, rd0, ms0, tk0, hM0⟩ := (id hV : INV h)
  have a0 := hI0.1
  refine al1 dL_law_220 ?_
  refine xt_aload_nR dL_law_221 rfl rfl ?_
  refine il3 dL_law_222 ?_
  refine xt_iconst (1) dL_law_223 rfl ?_
  refine xt_iadd dL_law_224 ?_
  refine xt_sld (7 * k + 1) (ne_add (a := 7 * k) (b := 1) rfl rfl) (by omega) hL31 dL_law_225 ?_
  refine sE_L_23 dL_law_226 hC7 a0 ⟨by show _ ≤ 895468; omega, by show _ ≤ 6415845; omega, lb rfl⟩ (fun h2 hP => ?_)
  refine al2 dL_law_229 ?_
  refine xt_aload_nR dL_law_230 rfl rfl ?_
  refine il3 dL_law_231 ?_
  refine xt_iconst (1) dL_law_232 rfl ?_
  refine xt_iadd dL_law_233 ?_
  refine xt_sld (7 * k + 1) (ne_add (a := 7 * k) (b := 1) rfl rfl) (by omega) hL31 dL_law_234 ?_
  obtain ⟨⟨fs8, e8⟩, hC9⟩ := hC8 h2 hP
  refine sE_L_26 dL_law_235 hC9 e8 ⟨by show _ ≤ 895468; omega, by show _ ≤ 6415845; omega, lb rfl⟩ (fun h3 hI3 => ?_)
  refine xt_icmp_eq 1133 dL_law_238 rfl (fun _ => ?_) (fun q => absurd rfl q)
  refine xt_wid (c2 := 269 + (k + 1)) (s2 := 3858 + 2 * (k + 1)) (by omega) (by omega) ?_
  exact kk h3 n2 hI3 (by omega)
set_option maxHeartbeats 1000000 in
set_option maxRecDepth 100000 in
theorem law_plan {l : Launch} {G : va_G} {cy : ax_Y} {bs : Nat} {nm : String} {k n : Nat} {h : ax_H} (hL : cy.2.2.2.2.1 ≤ 3584) (hk : 7 * k + 7 ≤ cy.2.2.2.2.1) (hV : INV h) (hn : 269 ≤ n) (kk : ∀ (h3 : ax_H) (n3 : Nat), INV h3 → 269 ≤ n3 → ax_T l G cy bs room_1 RL nm cL_law 4 (some .boolean) (fun v _ _ => v = some (.int 1)) 895468 6415845 1133 [some (.retAddr cy.2.2.2.1), some (.ref 0), some (.ref 259), some (.int (nI (7 * k)))] [] h3 n3 (269 + (k + 1)) (3858 + 2 * (k + 1))) : ax_T l G cy bs room_1 RL nm cL_law 4 (some .boolean) (fun v _ _ => v = some (.int 1)) 895468 6415845 243 [some (.retAddr cy.2.2.2.1), some (.ref 0), some (.ref 259), some (.int (nI (7 * k)))] [] h n (269 + k) (3858 + 2 * k) := by
  have hL31 : cy.2.2.2.2.1 < 2 ^ 31 := by omega
  obtain ⟨ans, P, n2, hC7, hle, hC8⟩ := PR_plan hV hn 
  obtain ⟨m0, u0, t0, im0, iu0, W0, tp0, mn0, la0, it0, hI0, aT0, nu0, ab0, be0, mv0, rd0, ms0, tk0, hM0⟩ := (id hV : INV h)
  have a0 := hI0.1
  refine al1 dL_law_243 ?_
  refine sE_L_27 dL_law_244 hC7 a0 ⟨by show _ ≤ 895468; omega, by show _ ≤ 6415845; omega, lb rfl⟩ (fun h2 hP => ?_)
  refine al2 dL_law_247 ?_
  obtain ⟨⟨fs8, e8⟩, hC9⟩ := hC8 h2 hP
  refine sE_L_31 dL_law_248 hC9 e8 ⟨by show _ ≤ 895468; omega, by show _ ≤ 6415845; omega, lb rfl⟩ (fun h3 hI3 => ?_)
  refine xt_icmp_eq 1133 dL_law_251 rfl (fun _ => ?_) (fun q => absurd rfl q)
  refine xt_wid (c2 := 269 + (k + 1)) (s2 := 3858 + 2 * (k + 1)) (by omega) (by omega) ?_
  exact kk h3 n2 hI3 (by omega)
set_option maxHeartbeats 1000000 in
set_option maxRecDepth 100000 in
theorem law_count {l : Launch} {G : va_G} {cy : ax_Y} {bs : Nat} {nm : String} {k n : Nat} {h : ax_H} (hL : cy.2.2.2.2.1 ≤ 3584) (hk : 7 * k + 7 ≤ cy.2.2.2.2.1) (hV : INV h) (hn : 269 ≤ n) (kk : ∀ (h3 : ax_H) (n3 : Nat), INV h3 → 269 ≤ n3 → ax_T l G cy bs room_1 RL nm cL_law 4 (some .boolean) (fun v _ _ => v = some (.int 1)) 895468 6415845 1133 [some (.retAddr cy.2.2.2.1), some (.ref 0), some (.ref 259), some (.int (nI (7 * k)))] [] h3 n3 (269 + (k + 1)) (3858 + 2 * (k + 1))) : ax_T l G cy bs room_1 RL nm cL_law 4 (some .boolean) (fun v _ _ => v = some (.int 1)) 895468 6415845 256 [some (.retAddr cy.2.2.2.1), some (.ref 0), some (.ref 259), some (.int (nI (7 * k)))] [] h n (269 + k) (3858 + 2 * k) := by
  have hL31 : cy.2.2.2.2.1 < 2 ^ 31 := by omega
  obtain ⟨ans, P, n2, hC7, hle, hC8⟩ := PR_count hV hn (cy.2.2.2.2.2 (7 * k + 1))
  obtain ⟨m0, u0, t0, im0, iu0, W0, tp0, mn0, la0, it0, hI0, aT0, nu0, ab0, be0, mv0, rd0, ms0, tk0, hM0⟩ := (id hV : INV h)
  have a0 := hI0.1
  refine al1 dL_law_256 ?_
  refine xt_aload_nR dL_law_257 rfl rfl ?_
  refine il3 dL_law_258 ?_
  refine xt_iconst (1) dL_law_259 rfl ?_
  refine xt_iadd dL_law_260 ?_
  refine xt_sld (7 * k + 1) (ne_add (a := 7 * k) (b := 1) rfl rfl) (by omega) hL31 dL_law_261 ?_
  refine sE_L_32 dL_law_262 hC7 a0 ⟨by show _ ≤ 895468; omega, by show _ ≤ 6415845; omega, lb rfl⟩ (fun h2 hP => ?_)
  refine al2 dL_law_265 ?_
  refine xt_aload_nR dL_law_266 rfl rfl ?_
  refine il3 dL_law_267 ?_
  refine xt_iconst (1) dL_law_268 rfl ?_
  refine xt_iadd dL_law_269 ?_
  refine xt_sld (7 * k + 1) (ne_add (a := 7 * k) (b := 1) rfl rfl) (by omega) hL31 dL_law_270 ?_
  obtain ⟨⟨fs8, e8⟩, hC9⟩ := hC8 h2 hP
  refine sE_L_35 dL_law_271 hC9 e8 ⟨by show _ ≤ 895468; omega, by show _ ≤ 6415845; omega, lb rfl⟩ (fun h3 hI3 => ?_)
  refine xt_icmp_eq 1133 dL_law_274 rfl (fun _ => ?_) (fun q => absurd rfl q)
  refine xt_wid (c2 := 269 + (k + 1)) (s2 := 3858 + 2 * (k + 1)) (by omega) (by omega) ?_
  exact kk h3 n2 hI3 (by omega)
set_option maxHeartbeats 1000000 in
set_option maxRecDepth 100000 in
theorem law_push {l : Launch} {G : va_G} {cy : ax_Y} {bs : Nat} {nm : String} {k n : Nat} {h : ax_H} (hL : cy.2.2.2.2.1 ≤ 3584) (hk : 7 * k + 7 ≤ cy.2.2.2.2.1) (hV : INV h) (hn : 269 ≤ n) (kk : ∀ (h3 : ax_H) (n3 : Nat), INV h3 → 269 ≤ n3 → ax_T l G cy bs room_1 RL nm cL_law 4 (some .boolean) (fun v _ _ => v = some (.int 1)) 895468 6415845 1133 [some (.retAddr cy.2.2.2.1), some (.ref 0), some (.ref 259), some (.int (nI (7 * k)))] [] h3 n3 (269 + (k + 1)) (3858 + 2 * (k + 1))) : ax_T l G cy bs room_1 RL nm cL_law 4 (some .boolean) (fun v _ _ => v = some (.int 1)) 895468 6415845 279 [some (.retAddr cy.2.2.2.1), some (.ref 0), some (.ref 259), some (.int (nI (7 * k)))] [] h n (269 + k) (3858 + 2 * k) := by
  have hL31 : cy.2.2.2.2.1 < 2 ^ 31 := by omega
  obtain ⟨ans, P, n2, hC7, hle, hC8⟩ := PR_push hV hn (cy.2.2.2.2.2 (7 * k + 1)) (cy.2.2.2.2.2 (7 * k + 2)) (cy.2.2.2.2.2 (7 * k + 3)) (cy.2.2.2.2.2 (7 * k + 4))
  obtain ⟨m0, u0, t0, im0, iu0, W0, tp0, mn0, la0, it0, hI0, aT0, nu0, ab0, be0, mv0, rd0, ms0, tk0, hM0⟩ := (id hV : INV h)
  have a0 := hI0.1
  refine al1 dL_law_279 ?_
  refine xt_aload_nR dL_law_280 rfl rfl ?_
  refine il3 dL_law_281 ?_
  refine xt_iconst (1) dL_law_282 rfl ?_
  refine xt_iadd dL_law_283 ?_
  refine xt_sld (7 * k + 1) (ne_add (a := 7 * k) (b := 1) rfl rfl) (by omega) hL31 dL_law_284 ?_
  refine xt_aload_nR dL_law_285 rfl rfl ?_
  refine il3 dL_law_286 ?_
  refine xt_iconst (2) dL_law_287 rfl ?_
  refine xt_iadd dL_law_288 ?_
  refine xt_sld (7 * k + 2) (ne_add (a := 7 * k) (b := 2) rfl rfl) (by omega) hL31 dL_law_289 ?_
  refine xt_aload_nR dL_law_290 rfl rfl ?_
  refine il3 dL_law_291 ?_
  refine xt_iconst (3) dL_law_292 rfl ?_
  refine xt_iadd dL_law_293 ?_
  refine xt_sld (7 * k + 3) (ne_add (a := 7 * k) (b := 3) rfl rfl) (by omega) hL31 dL_law_294 ?_
  refine xt_aload_nR dL_law_295 rfl rfl ?_
  refine il3 dL_law_296 ?_
  refine xt_iconst (4) dL_law_297 rfl ?_
  refine xt_iadd dL_law_298 ?_
  refine xt_sld (7 * k + 4) (ne_add (a := 7 * k) (b := 4) rfl rfl) (by omega) hL31 dL_law_299 ?_
  refine sE_L_36 dL_law_300 hC7 a0 ⟨by show _ ≤ 895468; omega, by show _ ≤ 6415845; omega, lb rfl⟩ (fun h2 hP => ?_)
  refine al2 dL_law_303 ?_
  refine xt_aload_nR dL_law_304 rfl rfl ?_
  refine il3 dL_law_305 ?_
  refine xt_iconst (1) dL_law_306 rfl ?_
  refine xt_iadd dL_law_307 ?_
  refine xt_sld (7 * k + 1) (ne_add (a := 7 * k) (b := 1) rfl rfl) (by omega) hL31 dL_law_308 ?_
  refine xt_aload_nR dL_law_309 rfl rfl ?_
  refine il3 dL_law_310 ?_
  refine xt_iconst (2) dL_law_311 rfl ?_
  refine xt_iadd dL_law_312 ?_
  refine xt_sld (7 * k + 2) (ne_add (a := 7 * k) (b := 2) rfl rfl) (by omega) hL31 dL_law_313 ?_
  refine xt_aload_nR dL_law_314 rfl rfl ?_
  refine il3 dL_law_315 ?_
  refine xt_iconst (3) dL_law_316 rfl ?_
  refine xt_iadd dL_law_317 ?_
  refine xt_sld (7 * k + 3) (ne_add (a := 7 * k) (b := 3) rfl rfl) (by omega) hL31 dL_law_318 ?_
  refine xt_aload_nR dL_law_319 rfl rfl ?_
  refine il3 dL_law_320 ?_
  refine xt_iconst (4) dL_law_321 rfl ?_
  refine xt_iadd dL_law_322 ?_
  refine xt_sld (7 * k + 4) (ne_add (a := 7 * k) (b := 4) rfl rfl) (by omega) hL31 dL_law_323 ?_
  obtain ⟨⟨fs8, e8⟩, hC9⟩ := hC8 h2 hP
  refine sE_L_40 dL_law_324 hC9 e8 ⟨by show _ ≤ 895468; omega, by show _ ≤ 6415845; omega, lb rfl⟩ (fun h3 hI3 => ?_)
  refine xt_icmp_eq 1133 dL_law_327 rfl (fun _ => ?_) (fun q => absurd rfl q)
  refine xt_wid (c2 := 269 + (k + 1)) (s2 := 3858 + 2 * (k + 1)) (by omega) (by omega) ?_
  exact kk h3 n2 hI3 (by omega)
set_option maxHeartbeats 1000000 in
set_option maxRecDepth 100000 in
theorem law_jump {l : Launch} {G : va_G} {cy : ax_Y} {bs : Nat} {nm : String} {k n : Nat} {h : ax_H} (hL : cy.2.2.2.2.1 ≤ 3584) (hk : 7 * k + 7 ≤ cy.2.2.2.2.1) (hV : INV h) (hn : 269 ≤ n) (kk : ∀ (h3 : ax_H) (n3 : Nat), INV h3 → 269 ≤ n3 → ax_T l G cy bs room_1 RL nm cL_law 4 (some .boolean) (fun v _ _ => v = some (.int 1)) 895468 6415845 1133 [some (.retAddr cy.2.2.2.1), some (.ref 0), some (.ref 259), some (.int (nI (7 * k)))] [] h3 n3 (269 + (k + 1)) (3858 + 2 * (k + 1))) : ax_T l G cy bs room_1 RL nm cL_law 4 (some .boolean) (fun v _ _ => v = some (.int 1)) 895468 6415845 332 [some (.retAddr cy.2.2.2.1), some (.ref 0), some (.ref 259), some (.int (nI (7 * k)))] [] h n (269 + k) (3858 + 2 * k) := by
  have hL31 : cy.2.2.2.2.1 < 2 ^ 31 := by omega
  obtain ⟨ans, P, n2, hC7, hle, hC8⟩ := PR_jump hV hn (cy.2.2.2.2.2 (7 * k + 1)) (cy.2.2.2.2.2 (7 * k + 2)) (cy.2.2.2.2.2 (7 * k + 3)) (cy.2.2.2.2.2 (7 * k + 4))
  obtain ⟨m0, u0, t0, im0, iu0, W0, tp0, mn0, la0, it0, hI0, aT0, nu0, ab0, be0, mv0, rd0, ms0, tk0, hM0⟩ := (id hV : INV h)
  have a0 := hI0.1
  refine al1 dL_law_332 ?_
  refine xt_aload_nR dL_law_333 rfl rfl ?_
  refine il3 dL_law_334 ?_
  refine xt_iconst (1) dL_law_335 rfl ?_
  refine xt_iadd dL_law_336 ?_
  refine xt_sld (7 * k + 1) (ne_add (a := 7 * k) (b := 1) rfl rfl) (by omega) hL31 dL_law_337 ?_
  refine xt_aload_nR dL_law_338 rfl rfl ?_
  refine il3 dL_law_339 ?_
  refine xt_iconst (2) dL_law_340 rfl ?_
  refine xt_iadd dL_law_341 ?_
  refine xt_sld (7 * k + 2) (ne_add (a := 7 * k) (b := 2) rfl rfl) (by omega) hL31 dL_law_342 ?_
  refine xt_aload_nR dL_law_343 rfl rfl ?_
  refine il3 dL_law_344 ?_
  refine xt_iconst (3) dL_law_345 rfl ?_
  refine xt_iadd dL_law_346 ?_
  refine xt_sld (7 * k + 3) (ne_add (a := 7 * k) (b := 3) rfl rfl) (by omega) hL31 dL_law_347 ?_
  refine xt_aload_nR dL_law_348 rfl rfl ?_
  refine il3 dL_law_349 ?_
  refine xt_iconst (4) dL_law_350 rfl ?_
  refine xt_iadd dL_law_351 ?_
  refine xt_sld (7 * k + 4) (ne_add (a := 7 * k) (b := 4) rfl rfl) (by omega) hL31 dL_law_352 ?_
  refine sE_L_41 dL_law_353 hC7 a0 ⟨by show _ ≤ 895468; omega, by show _ ≤ 6415845; omega, lb rfl⟩ (fun h2 hP => ?_)
  refine al2 dL_law_356 ?_
  refine xt_aload_nR dL_law_357 rfl rfl ?_
  refine il3 dL_law_358 ?_
  refine xt_iconst (1) dL_law_359 rfl ?_
  refine xt_iadd dL_law_360 ?_
  refine xt_sld (7 * k + 1) (ne_add (a := 7 * k) (b := 1) rfl rfl) (by omega) hL31 dL_law_361 ?_
  refine xt_aload_nR dL_law_362 rfl rfl ?_
  refine il3 dL_law_363 ?_
  refine xt_iconst (2) dL_law_364 rfl ?_
  refine xt_iadd dL_law_365 ?_
  refine xt_sld (7 * k + 2) (ne_add (a := 7 * k) (b := 2) rfl rfl) (by omega) hL31 dL_law_366 ?_
  refine xt_aload_nR dL_law_367 rfl rfl ?_
  refine il3 dL_law_368 ?_
  refine xt_iconst (3) dL_law_369 rfl ?_
  refine xt_iadd dL_law_370 ?_
  refine xt_sld (7 * k + 3) (ne_add (a := 7 * k) (b := 3) rfl rfl) (by omega) hL31 dL_law_371 ?_
  refine xt_aload_nR dL_law_372 rfl rfl ?_
  refine il3 dL_law_373 ?_
  refine xt_iconst (4) dL_law_374 rfl ?_
  refine xt_iadd dL_law_375 ?_
  refine xt_sld (7 * k + 4) (ne_add (a := 7 * k) (b := 4) rfl rfl) (by omega) hL31 dL_law_376 ?_
  obtain ⟨⟨fs8, e8⟩, hC9⟩ := hC8 h2 hP
  refine sE_L_44 dL_law_377 hC9 e8 ⟨by show _ ≤ 895468; omega, by show _ ≤ 6415845; omega, lb rfl⟩ (fun h3 hI3 => ?_)
  refine xt_icmp_eq 1133 dL_law_380 rfl (fun _ => ?_) (fun q => absurd rfl q)
  refine xt_wid (c2 := 269 + (k + 1)) (s2 := 3858 + 2 * (k + 1)) (by omega) (by omega) ?_
  exact kk h3 n2 hI3 (by omega)
set_option maxHeartbeats 1000000 in
set_option maxRecDepth 100000 in
theorem law_purge {l : Launch} {G : va_G} {cy : ax_Y} {bs : Nat} {nm : String} {k n : Nat} {h : ax_H} (hL : cy.2.2.2.2.1 ≤ 3584) (hk : 7 * k + 7 ≤ cy.2.2.2.2.1) (hV : INV h) (hn : 269 ≤ n) (kk : ∀ (h3 : ax_H) (n3 : Nat), INV h3 → 269 ≤ n3 → ax_T l G cy bs room_1 RL nm cL_law 4 (some .boolean) (fun v _ _ => v = some (.int 1)) 895468 6415845 1133 [some (.retAddr cy.2.2.2.1), some (.ref 0), some (.ref 259), some (.int (nI (7 * k)))] [] h3 n3 (269 + (k + 1)) (3858 + 2 * (k + 1))) : ax_T l G cy bs room_1 RL nm cL_law 4 (some .boolean) (fun v _ _ => v = some (.int 1)) 895468 6415845 385 [some (.retAddr cy.2.2.2.1), some (.ref 0), some (.ref 259), some (.int (nI (7 * k)))] [] h n (269 + k) (3858 + 2 * k) := by
  have hL31 : cy.2.2.2.2.1 < 2 ^ 31 := by omega
  obtain ⟨ans, P, n2, hC7, hle, hC8⟩ := PR_purge hV hn (cy.2.2.2.2.2 (7 * k + 1))
  obtain ⟨m0, u0, t0, im0, iu0, W0, tp0, mn0, la0, it0, hI0, aT0, nu0, ab0, be0, mv0, rd0, ms0, tk0, hM0⟩ := (id hV : INV h)
  have a0 := hI0.1
  refine al1 dL_law_385 ?_
  refine xt_aload_nR dL_law_386 rfl rfl ?_
  refine il3 dL_law_387 ?_
  refine xt_iconst (1) dL_law_388 rfl ?_
  refine xt_iadd dL_law_389 ?_
  refine xt_sld (7 * k + 1) (ne_add (a := 7 * k) (b := 1) rfl rfl) (by omega) hL31 dL_law_390 ?_
  refine sE_L_45 dL_law_391 hC7 a0 ⟨by show _ ≤ 895468; omega, by show _ ≤ 6415845; omega, lb rfl⟩ (fun h2 hP => ?_)
  refine al2 dL_law_394 ?_
  refine xt_aload_nR dL_law_395 rfl rfl ?_
  refine il3 dL_law_396 ?_
  refine xt_iconst (1) dL_law_397 rfl ?_
  refine xt_iadd dL_law_398 ?_
  refine xt_sld (7 * k + 1) (ne_add (a := 7 * k) (b := 1) rfl rfl) (by omega) hL31 dL_law_399 ?_
  obtain ⟨⟨fs8, e8⟩, hC9⟩ := hC8 h2 hP
  refine sE_L_48 dL_law_400 hC9 e8 ⟨by show _ ≤ 895468; omega, by show _ ≤ 6415845; omega, lb rfl⟩ (fun h3 hI3 => ?_)
  refine xt_icmp_eq 1133 dL_law_403 rfl (fun _ => ?_) (fun q => absurd rfl q)
  refine xt_wid (c2 := 269 + (k + 1)) (s2 := 3858 + 2 * (k + 1)) (by omega) (by omega) ?_
  exact kk h3 n2 hI3 (by omega)
set_option maxHeartbeats 1000000 in
set_option maxRecDepth 100000 in
theorem law_stop {l : Launch} {G : va_G} {cy : ax_Y} {bs : Nat} {nm : String} {k n : Nat} {h : ax_H} (hL : cy.2.2.2.2.1 ≤ 3584) (hk : 7 * k + 7 ≤ cy.2.2.2.2.1) (hV : INV h) (hn : 269 ≤ n) (kk : ∀ (h3 : ax_H) (n3 : Nat), INV h3 → 269 ≤ n3 → ax_T l G cy bs room_1 RL nm cL_law 4 (some .boolean) (fun v _ _ => v = some (.int 1)) 895468 6415845 1133 [some (.retAddr cy.2.2.2.1), some (.ref 0), some (.ref 259), some (.int (nI (7 * k)))] [] h3 n3 (269 + (k + 1)) (3858 + 2 * (k + 1))) : ax_T l G cy bs room_1 RL nm cL_law 4 (some .boolean) (fun v _ _ => v = some (.int 1)) 895468 6415845 408 [some (.retAddr cy.2.2.2.1), some (.ref 0), some (.ref 259), some (.int (nI (7 * k)))] [] h n (269 + k) (3858 + 2 * k) := by
  have hL31 : cy.2.2.2.2.1 < 2 ^ 31 := by omega
  obtain ⟨ans, P, n2, hC7, hle, hC8⟩ := PR_stop hV hn 
  obtain ⟨m0, u0, t0, im0, iu0, W0, tp0, mn0, la0, it0, hI0, aT0, nu0, ab0, be0, mv0, rd0, ms0, tk0, hM0⟩ := (id hV : INV h)
  have a0 := hI0.1
  refine al1 dL_law_408 ?_
  refine sE_L_49 dL_law_409 hC7 a0 ⟨by show _ ≤ 895468; omega, by show _ ≤ 6415845; omega, lb rfl⟩ (fun h2 hP => ?_)
  refine al2 dL_law_412 ?_
  obtain ⟨⟨fs8, e8⟩, hC9⟩ := hC8 h2 hP
  refine sE_L_52 dL_law_413 hC9 e8 ⟨by show _ ≤ 895468; omega, by show _ ≤ 6415845; omega, lb rfl⟩ (fun h3 hI3 => ?_)
  refine xt_icmp_eq 1133 dL_law_416 rfl (fun _ => ?_) (fun q => absurd rfl q)
  refine xt_wid (c2 := 269 + (k + 1)) (s2 := 3858 + 2 * (k + 1)) (by omega) (by omega) ?_
  exact kk h3 n2 hI3 (by omega)
set_option maxHeartbeats 1000000 in
set_option maxRecDepth 100000 in
theorem law_hold {l : Launch} {G : va_G} {cy : ax_Y} {bs : Nat} {nm : String} {k n : Nat} {h : ax_H} (hL : cy.2.2.2.2.1 ≤ 3584) (hk : 7 * k + 7 ≤ cy.2.2.2.2.1) (hV : INV h) (hn : 269 ≤ n) (kk : ∀ (h3 : ax_H) (n3 : Nat), INV h3 → 269 ≤ n3 → ax_T l G cy bs room_1 RL nm cL_law 4 (some .boolean) (fun v _ _ => v = some (.int 1)) 895468 6415845 1133 [some (.retAddr cy.2.2.2.1), some (.ref 0), some (.ref 259), some (.int (nI (7 * k)))] [] h3 n3 (269 + (k + 1)) (3858 + 2 * (k + 1))) : ax_T l G cy bs room_1 RL nm cL_law 4 (some .boolean) (fun v _ _ => v = some (.int 1)) 895468 6415845 421 [some (.retAddr cy.2.2.2.1), some (.ref 0), some (.ref 259), some (.int (nI (7 * k)))] [] h n (269 + k) (3858 + 2 * k) := by
  have hL31 : cy.2.2.2.2.1 < 2 ^ 31 := by omega
  obtain ⟨ans, P, n2, hC7, hle, hC8⟩ := PR_hold hV hn 
  obtain ⟨m0, u0, t0, im0, iu0, W0, tp0, mn0, la0, it0, hI0, aT0, nu0, ab0, be0, mv0, rd0, ms0, tk0, hM0⟩ := (id hV : INV h)
  have a0 := hI0.1
  refine al1 dL_law_421 ?_
  refine sE_L_53 dL_law_422 hC7 a0 ⟨by show _ ≤ 895468; omega, by show _ ≤ 6415845; omega, lb rfl⟩ (fun h2 hP => ?_)
  refine al2 dL_law_425 ?_
  obtain ⟨⟨fs8, e8⟩, hC9⟩ := hC8 h2 hP
  refine sE_L_56 dL_law_426 hC9 e8 ⟨by show _ ≤ 895468; omega, by show _ ≤ 6415845; omega, lb rfl⟩ (fun h3 hI3 => ?_)
  refine xt_icmp_eq 1133 dL_law_429 rfl (fun _ => ?_) (fun q => absurd rfl q)
  refine xt_wid (c2 := 269 + (k + 1)) (s2 := 3858 + 2 * (k + 1)) (by omega) (by omega) ?_
  exact kk h3 n2 hI3 (by omega)
set_option maxHeartbeats 1000000 in
set_option maxRecDepth 100000 in
theorem law_step {l : Launch} {G : va_G} {cy : ax_Y} {bs : Nat} {nm : String} {k n : Nat} {h : ax_H} (hL : cy.2.2.2.2.1 ≤ 3584) (hk : 7 * k + 7 ≤ cy.2.2.2.2.1) (hV : INV h) (hn : 269 ≤ n) (kk : ∀ (h3 : ax_H) (n3 : Nat), INV h3 → 269 ≤ n3 → ax_T l G cy bs room_1 RL nm cL_law 4 (some .boolean) (fun v _ _ => v = some (.int 1)) 895468 6415845 1133 [some (.retAddr cy.2.2.2.1), some (.ref 0), some (.ref 259), some (.int (nI (7 * k)))] [] h3 n3 (269 + (k + 1)) (3858 + 2 * (k + 1))) : ax_T l G cy bs room_1 RL nm cL_law 4 (some .boolean) (fun v _ _ => v = some (.int 1)) 895468 6415845 434 [some (.retAddr cy.2.2.2.1), some (.ref 0), some (.ref 259), some (.int (nI (7 * k)))] [] h n (269 + k) (3858 + 2 * k) := by
  have hL31 : cy.2.2.2.2.1 < 2 ^ 31 := by omega
  obtain ⟨ans, P, n2, hC7, hle, hC8⟩ := PR_step hV hn (cy.2.2.2.2.2 (7 * k + 1))
  obtain ⟨m0, u0, t0, im0, iu0, W0, tp0, mn0, la0, it0, hI0, aT0, nu0, ab0, be0, mv0, rd0, ms0, tk0, hM0⟩ := (id hV : INV h)
  have a0 := hI0.1
  refine al1 dL_law_434 ?_
  refine xt_aload_nR dL_law_435 rfl rfl ?_
  refine il3 dL_law_436 ?_
  refine xt_iconst (1) dL_law_437 rfl ?_
  refine xt_iadd dL_law_438 ?_
  refine xt_sld (7 * k + 1) (ne_add (a := 7 * k) (b := 1) rfl rfl) (by omega) hL31 dL_law_439 ?_
  refine sE_L_57 dL_law_440 hC7 a0 ⟨by show _ ≤ 895468; omega, by show _ ≤ 6415845; omega, lb rfl⟩ (fun h2 hP => ?_)
  refine al2 dL_law_443 ?_
  refine xt_aload_nR dL_law_444 rfl rfl ?_
  refine il3 dL_law_445 ?_
  refine xt_iconst (1) dL_law_446 rfl ?_
  refine xt_iadd dL_law_447 ?_
  refine xt_sld (7 * k + 1) (ne_add (a := 7 * k) (b := 1) rfl rfl) (by omega) hL31 dL_law_448 ?_
  obtain ⟨⟨fs8, e8⟩, hC9⟩ := hC8 h2 hP
  refine sE_L_60 dL_law_449 hC9 e8 ⟨by show _ ≤ 895468; omega, by show _ ≤ 6415845; omega, lb rfl⟩ (fun h3 hI3 => ?_)
  refine xt_icmp_eq 1133 dL_law_452 rfl (fun _ => ?_) (fun q => absurd rfl q)
  refine xt_wid (c2 := 269 + (k + 1)) (s2 := 3858 + 2 * (k + 1)) (by omega) (by omega) ?_
  exact kk h3 n2 hI3 (by omega)
set_option maxHeartbeats 1000000 in
set_option maxRecDepth 100000 in
theorem law_drift {l : Launch} {G : va_G} {cy : ax_Y} {bs : Nat} {nm : String} {k n : Nat} {h : ax_H} (hL : cy.2.2.2.2.1 ≤ 3584) (hk : 7 * k + 7 ≤ cy.2.2.2.2.1) (hV : INV h) (hn : 269 ≤ n) (kk : ∀ (h3 : ax_H) (n3 : Nat), INV h3 → 269 ≤ n3 → ax_T l G cy bs room_1 RL nm cL_law 4 (some .boolean) (fun v _ _ => v = some (.int 1)) 895468 6415845 1133 [some (.retAddr cy.2.2.2.1), some (.ref 0), some (.ref 259), some (.int (nI (7 * k)))] [] h3 n3 (269 + (k + 1)) (3858 + 2 * (k + 1))) : ax_T l G cy bs room_1 RL nm cL_law 4 (some .boolean) (fun v _ _ => v = some (.int 1)) 895468 6415845 457 [some (.retAddr cy.2.2.2.1), some (.ref 0), some (.ref 259), some (.int (nI (7 * k)))] [] h n (269 + k) (3858 + 2 * k) := by
  have hL31 : cy.2.2.2.2.1 < 2 ^ 31 := by omega
  obtain ⟨ans, P, n2, hC7, hle, hC8⟩ := PR_drift hV hn (cy.2.2.2.2.2 (7 * k + 1))
  obtain ⟨m0, u0, t0, im0, iu0, W0, tp0, mn0, la0, it0, hI0, aT0, nu0, ab0, be0, mv0, rd0, ms0, tk0, hM0⟩ := (id hV : INV h)
  have a0 := hI0.1
  refine al1 dL_law_457 ?_
  refine xt_aload_nR dL_law_458 rfl rfl ?_
  refine il3 dL_law_459 ?_
  refine xt_iconst (1) dL_law_460 rfl ?_
  refine xt_iadd dL_law_461 ?_
  refine xt_sld (7 * k + 1) (ne_add (a := 7 * k) (b := 1) rfl rfl) (by omega) hL31 dL_law_462 ?_
  refine sE_L_61 dL_law_463 hC7 a0 ⟨by show _ ≤ 895468; omega, by show _ ≤ 6415845; omega, lb rfl⟩ (fun h2 hP => ?_)
  refine al2 dL_law_466 ?_
  refine xt_aload_nR dL_law_467 rfl rfl ?_
  refine il3 dL_law_468 ?_
  refine xt_iconst (1) dL_law_469 rfl ?_
  refine xt_iadd dL_law_470 ?_
  refine xt_sld (7 * k + 1) (ne_add (a := 7 * k) (b := 1) rfl rfl) (by omega) hL31 dL_law_471 ?_
  obtain ⟨⟨fs8, e8⟩, hC9⟩ := hC8 h2 hP
  refine sE_L_64 dL_law_472 hC9 e8 ⟨by show _ ≤ 895468; omega, by show _ ≤ 6415845; omega, lb rfl⟩ (fun h3 hI3 => ?_)
  refine xt_icmp_eq 1133 dL_law_475 rfl (fun _ => ?_) (fun q => absurd rfl q)
  refine xt_wid (c2 := 269 + (k + 1)) (s2 := 3858 + 2 * (k + 1)) (by omega) (by omega) ?_
  exact kk h3 n2 hI3 (by omega)
set_option maxHeartbeats 1000000 in
set_option maxRecDepth 100000 in
theorem law_undo {l : Launch} {G : va_G} {cy : ax_Y} {bs : Nat} {nm : String} {k n : Nat} {h : ax_H} (hL : cy.2.2.2.2.1 ≤ 3584) (hk : 7 * k + 7 ≤ cy.2.2.2.2.1) (hV : INV h) (hn : 269 ≤ n) (kk : ∀ (h3 : ax_H) (n3 : Nat), INV h3 → 269 ≤ n3 → ax_T l G cy bs room_1 RL nm cL_law 4 (some .boolean) (fun v _ _ => v = some (.int 1)) 895468 6415845 1133 [some (.retAddr cy.2.2.2.1), some (.ref 0), some (.ref 259), some (.int (nI (7 * k)))] [] h3 n3 (269 + (k + 1)) (3858 + 2 * (k + 1))) : ax_T l G cy bs room_1 RL nm cL_law 4 (some .boolean) (fun v _ _ => v = some (.int 1)) 895468 6415845 480 [some (.retAddr cy.2.2.2.1), some (.ref 0), some (.ref 259), some (.int (nI (7 * k)))] [] h n (269 + k) (3858 + 2 * k) := by
  have hL31 : cy.2.2.2.2.1 < 2 ^ 31 := by omega
  obtain ⟨ans, P, n2, hC7, hle, hC8⟩ := PR_undo hV hn 
  obtain ⟨m0, u0, t0, im0, iu0, W0, tp0, mn0, la0, it0, hI0, aT0, nu0, ab0, be0, mv0, rd0, ms0, tk0, hM0⟩ := (id hV : INV h)
  have a0 := hI0.1
  refine al1 dL_law_480 ?_
  refine sE_L_65 dL_law_481 hC7 a0 ⟨by show _ ≤ 895468; omega, by show _ ≤ 6415845; omega, lb rfl⟩ (fun h2 hP => ?_)
  refine al2 dL_law_484 ?_
  obtain ⟨⟨fs8, e8⟩, hC9⟩ := hC8 h2 hP
  refine sE_L_68 dL_law_485 hC9 e8 ⟨by show _ ≤ 895468; omega, by show _ ≤ 6415845; omega, lb rfl⟩ (fun h3 hI3 => ?_)
  refine xt_icmp_eq 1133 dL_law_488 rfl (fun _ => ?_) (fun q => absurd rfl q)
  refine xt_wid (c2 := 269 + (k + 1)) (s2 := 3858 + 2 * (k + 1)) (by omega) (by omega) ?_
  exact kk h3 n2 hI3 (by omega)
set_option maxHeartbeats 1000000 in
set_option maxRecDepth 100000 in
theorem law_seed {l : Launch} {G : va_G} {cy : ax_Y} {bs : Nat} {nm : String} {k n : Nat} {h : ax_H} (hL : cy.2.2.2.2.1 ≤ 3584) (hk : 7 * k + 7 ≤ cy.2.2.2.2.1) (hV : INV h) (hn : 269 ≤ n) (kk : ∀ (h3 : ax_H) (n3 : Nat), INV h3 → 269 ≤ n3 → ax_T l G cy bs room_1 RL nm cL_law 4 (some .boolean) (fun v _ _ => v = some (.int 1)) 895468 6415845 1133 [some (.retAddr cy.2.2.2.1), some (.ref 0), some (.ref 259), some (.int (nI (7 * k)))] [] h3 n3 (269 + (k + 1)) (3858 + 2 * (k + 1))) : ax_T l G cy bs room_1 RL nm cL_law 4 (some .boolean) (fun v _ _ => v = some (.int 1)) 895468 6415845 493 [some (.retAddr cy.2.2.2.1), some (.ref 0), some (.ref 259), some (.int (nI (7 * k)))] [] h n (269 + k) (3858 + 2 * k) := by
  have hL31 : cy.2.2.2.2.1 < 2 ^ 31 := by omega
  obtain ⟨ans, P, n2, hC7, hle, hC8⟩ := PR_seed hV hn (cy.2.2.2.2.2 (7 * k + 1))
  obtain ⟨m0, u0, t0, im0, iu0, W0, tp0, mn0, la0, it0, hI0, aT0, nu0, ab0, be0, mv0, rd0, ms0, tk0, hM0⟩ := (id hV : INV h)
  have a0 := hI0.1
  refine al1 dL_law_493 ?_
  refine xt_aload_nR dL_law_494 rfl rfl ?_
  refine il3 dL_law_495 ?_
  refine xt_iconst (1) dL_law_496 rfl ?_
  refine xt_iadd dL_law_497 ?_
  refine xt_sld (7 * k + 1) (ne_add (a := 7 * k) (b := 1) rfl rfl) (by omega) hL31 dL_law_498 ?_
  refine sE_L_69 dL_law_499 hC7 a0 ⟨by show _ ≤ 895468; omega, by show _ ≤ 6415845; omega, lb rfl⟩ (fun h2 hP => ?_)
  refine al2 dL_law_502 ?_
  refine xt_aload_nR dL_law_503 rfl rfl ?_
  refine il3 dL_law_504 ?_
  refine xt_iconst (1) dL_law_505 rfl ?_
  refine xt_iadd dL_law_506 ?_
  refine xt_sld (7 * k + 1) (ne_add (a := 7 * k) (b := 1) rfl rfl) (by omega) hL31 dL_law_507 ?_
  obtain ⟨⟨fs8, e8⟩, hC9⟩ := hC8 h2 hP
  refine sE_L_72 dL_law_508 hC9 e8 ⟨by show _ ≤ 895468; omega, by show _ ≤ 6415845; omega, lb rfl⟩ (fun h3 hI3 => ?_)
  refine xt_icmp_eq 1133 dL_law_511 rfl (fun _ => ?_) (fun q => absurd rfl q)
  refine xt_wid (c2 := 269 + (k + 1)) (s2 := 3858 + 2 * (k + 1)) (by omega) (by omega) ?_
  exact kk h3 n2 hI3 (by omega)
set_option maxHeartbeats 1000000 in
set_option maxRecDepth 100000 in
theorem law_where {l : Launch} {G : va_G} {cy : ax_Y} {bs : Nat} {nm : String} {k n : Nat} {h : ax_H} (hL : cy.2.2.2.2.1 ≤ 3584) (hk : 7 * k + 7 ≤ cy.2.2.2.2.1) (hV : INV h) (hn : 269 ≤ n) (kk : ∀ (h3 : ax_H) (n3 : Nat), INV h3 → 269 ≤ n3 → ax_T l G cy bs room_1 RL nm cL_law 4 (some .boolean) (fun v _ _ => v = some (.int 1)) 895468 6415845 1133 [some (.retAddr cy.2.2.2.1), some (.ref 0), some (.ref 259), some (.int (nI (7 * k)))] [] h3 n3 (269 + (k + 1)) (3858 + 2 * (k + 1))) : ax_T l G cy bs room_1 RL nm cL_law 4 (some .boolean) (fun v _ _ => v = some (.int 1)) 895468 6415845 516 [some (.retAddr cy.2.2.2.1), some (.ref 0), some (.ref 259), some (.int (nI (7 * k)))] [] h n (269 + k) (3858 + 2 * k) := by
  have hL31 : cy.2.2.2.2.1 < 2 ^ 31 := by omega
  obtain ⟨ans, P, n2, hC7, hle, hC8⟩ := PR_where hV hn (cy.2.2.2.2.2 (7 * k + 1)) (cy.2.2.2.2.2 (7 * k + 2))
  obtain ⟨m0, u0, t0, im0, iu0, W0, tp0, mn0, la0, it0, hI0, aT0, nu0, ab0, be0, mv0, rd0, ms0, tk0, hM0⟩ := (id hV : INV h)
  have a0 := hI0.1
  refine al1 dL_law_516 ?_
  refine xt_aload_nR dL_law_517 rfl rfl ?_
  refine il3 dL_law_518 ?_
  refine xt_iconst (1) dL_law_519 rfl ?_
  refine xt_iadd dL_law_520 ?_
  refine xt_sld (7 * k + 1) (ne_add (a := 7 * k) (b := 1) rfl rfl) (by omega) hL31 dL_law_521 ?_
  refine xt_aload_nR dL_law_522 rfl rfl ?_
  refine il3 dL_law_523 ?_
  refine xt_iconst (2) dL_law_524 rfl ?_
  refine xt_iadd dL_law_525 ?_
  refine xt_sld (7 * k + 2) (ne_add (a := 7 * k) (b := 2) rfl rfl) (by omega) hL31 dL_law_526 ?_
  refine sE_L_73 dL_law_527 hC7 a0 ⟨by show _ ≤ 895468; omega, by show _ ≤ 6415845; omega, lb rfl⟩ (fun h2 hP => ?_)
  refine al2 dL_law_530 ?_
  refine xt_aload_nR dL_law_531 rfl rfl ?_
  refine il3 dL_law_532 ?_
  refine xt_iconst (1) dL_law_533 rfl ?_
  refine xt_iadd dL_law_534 ?_
  refine xt_sld (7 * k + 1) (ne_add (a := 7 * k) (b := 1) rfl rfl) (by omega) hL31 dL_law_535 ?_
  refine xt_aload_nR dL_law_536 rfl rfl ?_
  refine il3 dL_law_537 ?_
  refine xt_iconst (2) dL_law_538 rfl ?_
  refine xt_iadd dL_law_539 ?_
  refine xt_sld (7 * k + 2) (ne_add (a := 7 * k) (b := 2) rfl rfl) (by omega) hL31 dL_law_540 ?_
  obtain ⟨⟨fs8, e8⟩, hC9⟩ := hC8 h2 hP
  refine sE_L_76 dL_law_541 hC9 e8 ⟨by show _ ≤ 895468; omega, by show _ ≤ 6415845; omega, lb rfl⟩ (fun h3 hI3 => ?_)
  refine xt_icmp_eq 1133 dL_law_544 rfl (fun _ => ?_) (fun q => absurd rfl q)
  refine xt_wid (c2 := 269 + (k + 1)) (s2 := 3858 + 2 * (k + 1)) (by omega) (by omega) ?_
  exact kk h3 n2 hI3 (by omega)
set_option maxHeartbeats 1000000 in
set_option maxRecDepth 100000 in
theorem law_pulses {l : Launch} {G : va_G} {cy : ax_Y} {bs : Nat} {nm : String} {k n : Nat} {h : ax_H} (hL : cy.2.2.2.2.1 ≤ 3584) (hk : 7 * k + 7 ≤ cy.2.2.2.2.1) (hV : INV h) (hn : 269 ≤ n) (kk : ∀ (h3 : ax_H) (n3 : Nat), INV h3 → 269 ≤ n3 → ax_T l G cy bs room_1 RL nm cL_law 4 (some .boolean) (fun v _ _ => v = some (.int 1)) 895468 6415845 1133 [some (.retAddr cy.2.2.2.1), some (.ref 0), some (.ref 259), some (.int (nI (7 * k)))] [] h3 n3 (269 + (k + 1)) (3858 + 2 * (k + 1))) : ax_T l G cy bs room_1 RL nm cL_law 4 (some .boolean) (fun v _ _ => v = some (.int 1)) 895468 6415845 549 [some (.retAddr cy.2.2.2.1), some (.ref 0), some (.ref 259), some (.int (nI (7 * k)))] [] h n (269 + k) (3858 + 2 * k) := by
  have hL31 : cy.2.2.2.2.1 < 2 ^ 31 := by omega
  obtain ⟨ans, P, n2, hC7, hle, hC8⟩ := PR_pulses hV hn (cy.2.2.2.2.2 (7 * k + 1)) (cy.2.2.2.2.2 (7 * k + 2))
  obtain ⟨m0, u0, t0, im0, iu0, W0, tp0, mn0, la0, it0, hI0, aT0, nu0, ab0, be0, mv0, rd0, ms0, tk0, hM0⟩ := (id hV : INV h)
  have a0 := hI0.1
  refine al1 dL_law_549 ?_
  refine xt_aload_nR dL_law_550 rfl rfl ?_
  refine il3 dL_law_551 ?_
  refine xt_iconst (1) dL_law_552 rfl ?_
  refine xt_iadd dL_law_553 ?_
  refine xt_sld (7 * k + 1) (ne_add (a := 7 * k) (b := 1) rfl rfl) (by omega) hL31 dL_law_554 ?_
  refine xt_aload_nR dL_law_555 rfl rfl ?_
  refine il3 dL_law_556 ?_
  refine xt_iconst (2) dL_law_557 rfl ?_
  refine xt_iadd dL_law_558 ?_
  refine xt_sld (7 * k + 2) (ne_add (a := 7 * k) (b := 2) rfl rfl) (by omega) hL31 dL_law_559 ?_
  refine sE_L_77 dL_law_560 hC7 a0 ⟨by show _ ≤ 895468; omega, by show _ ≤ 6415845; omega, lb rfl⟩ (fun h2 hP => ?_)
  refine al2 dL_law_563 ?_
  refine xt_aload_nR dL_law_564 rfl rfl ?_
  refine il3 dL_law_565 ?_
  refine xt_iconst (1) dL_law_566 rfl ?_
  refine xt_iadd dL_law_567 ?_
  refine xt_sld (7 * k + 1) (ne_add (a := 7 * k) (b := 1) rfl rfl) (by omega) hL31 dL_law_568 ?_
  refine xt_aload_nR dL_law_569 rfl rfl ?_
  refine il3 dL_law_570 ?_
  refine xt_iconst (2) dL_law_571 rfl ?_
  refine xt_iadd dL_law_572 ?_
  refine xt_sld (7 * k + 2) (ne_add (a := 7 * k) (b := 2) rfl rfl) (by omega) hL31 dL_law_573 ?_
  obtain ⟨⟨fs8, e8⟩, hC9⟩ := hC8 h2 hP
  refine sE_L_80 dL_law_574 hC9 e8 ⟨by show _ ≤ 895468; omega, by show _ ≤ 6415845; omega, lb rfl⟩ (fun h3 hI3 => ?_)
  refine xt_icmp_eq 1133 dL_law_577 rfl (fun _ => ?_) (fun q => absurd rfl q)
  refine xt_wid (c2 := 269 + (k + 1)) (s2 := 3858 + 2 * (k + 1)) (by omega) (by omega) ?_
  exact kk h3 n2 hI3 (by omega)
set_option maxHeartbeats 1000000 in
set_option maxRecDepth 100000 in
theorem law_next {l : Launch} {G : va_G} {cy : ax_Y} {bs : Nat} {nm : String} {k n : Nat} {h : ax_H} (hL : cy.2.2.2.2.1 ≤ 3584) (hk : 7 * k + 7 ≤ cy.2.2.2.2.1) (hV : INV h) (hn : 269 ≤ n) (kk : ∀ (h3 : ax_H) (n3 : Nat), INV h3 → 269 ≤ n3 → ax_T l G cy bs room_1 RL nm cL_law 4 (some .boolean) (fun v _ _ => v = some (.int 1)) 895468 6415845 1133 [some (.retAddr cy.2.2.2.1), some (.ref 0), some (.ref 259), some (.int (nI (7 * k)))] [] h3 n3 (269 + (k + 1)) (3858 + 2 * (k + 1))) : ax_T l G cy bs room_1 RL nm cL_law 4 (some .boolean) (fun v _ _ => v = some (.int 1)) 895468 6415845 582 [some (.retAddr cy.2.2.2.1), some (.ref 0), some (.ref 259), some (.int (nI (7 * k)))] [] h n (269 + k) (3858 + 2 * k) := by
  have hL31 : cy.2.2.2.2.1 < 2 ^ 31 := by omega
  obtain ⟨ans, P, n2, hC7, hle, hC8⟩ := PR_next hV hn (cy.2.2.2.2.2 (7 * k + 1)) (cy.2.2.2.2.2 (7 * k + 2))
  obtain ⟨m0, u0, t0, im0, iu0, W0, tp0, mn0, la0, it0, hI0, aT0, nu0, ab0, be0, mv0, rd0, ms0, tk0, hM0⟩ := (id hV : INV h)
  have a0 := hI0.1
  refine al1 dL_law_582 ?_
  refine xt_aload_nR dL_law_583 rfl rfl ?_
  refine il3 dL_law_584 ?_
  refine xt_iconst (1) dL_law_585 rfl ?_
  refine xt_iadd dL_law_586 ?_
  refine xt_sld (7 * k + 1) (ne_add (a := 7 * k) (b := 1) rfl rfl) (by omega) hL31 dL_law_587 ?_
  refine xt_aload_nR dL_law_588 rfl rfl ?_
  refine il3 dL_law_589 ?_
  refine xt_iconst (2) dL_law_590 rfl ?_
  refine xt_iadd dL_law_591 ?_
  refine xt_sld (7 * k + 2) (ne_add (a := 7 * k) (b := 2) rfl rfl) (by omega) hL31 dL_law_592 ?_
  refine sE_L_81 dL_law_593 hC7 a0 ⟨by show _ ≤ 895468; omega, by show _ ≤ 6415845; omega, lb rfl⟩ (fun h2 hP => ?_)
  refine al2 dL_law_596 ?_
  refine xt_aload_nR dL_law_597 rfl rfl ?_
  refine il3 dL_law_598 ?_
  refine xt_iconst (1) dL_law_599 rfl ?_
  refine xt_iadd dL_law_600 ?_
  refine xt_sld (7 * k + 1) (ne_add (a := 7 * k) (b := 1) rfl rfl) (by omega) hL31 dL_law_601 ?_
  refine xt_aload_nR dL_law_602 rfl rfl ?_
  refine il3 dL_law_603 ?_
  refine xt_iconst (2) dL_law_604 rfl ?_
  refine xt_iadd dL_law_605 ?_
  refine xt_sld (7 * k + 2) (ne_add (a := 7 * k) (b := 2) rfl rfl) (by omega) hL31 dL_law_606 ?_
  obtain ⟨⟨fs8, e8⟩, hC9⟩ := hC8 h2 hP
  refine sE_L_84 dL_law_607 hC9 e8 ⟨by show _ ≤ 895468; omega, by show _ ≤ 6415845; omega, lb rfl⟩ (fun h3 hI3 => ?_)
  refine xt_icmp_eq 1133 dL_law_610 rfl (fun _ => ?_) (fun q => absurd rfl q)
  refine xt_wid (c2 := 269 + (k + 1)) (s2 := 3858 + 2 * (k + 1)) (by omega) (by omega) ?_
  exact kk h3 n2 hI3 (by omega)
set_option maxHeartbeats 1000000 in
set_option maxRecDepth 100000 in
theorem law_meets {l : Launch} {G : va_G} {cy : ax_Y} {bs : Nat} {nm : String} {k n : Nat} {h : ax_H} (hL : cy.2.2.2.2.1 ≤ 3584) (hk : 7 * k + 7 ≤ cy.2.2.2.2.1) (hV : INV h) (hn : 269 ≤ n) (kk : ∀ (h3 : ax_H) (n3 : Nat), INV h3 → 269 ≤ n3 → ax_T l G cy bs room_1 RL nm cL_law 4 (some .boolean) (fun v _ _ => v = some (.int 1)) 895468 6415845 1133 [some (.retAddr cy.2.2.2.1), some (.ref 0), some (.ref 259), some (.int (nI (7 * k)))] [] h3 n3 (269 + (k + 1)) (3858 + 2 * (k + 1))) : ax_T l G cy bs room_1 RL nm cL_law 4 (some .boolean) (fun v _ _ => v = some (.int 1)) 895468 6415845 615 [some (.retAddr cy.2.2.2.1), some (.ref 0), some (.ref 259), some (.int (nI (7 * k)))] [] h n (269 + k) (3858 + 2 * k) := by
  have hL31 : cy.2.2.2.2.1 < 2 ^ 31 := by omega
  obtain ⟨ans, P, n2, hC7, hle, hC8⟩ := PR_meets hV hn (cy.2.2.2.2.2 (7 * k + 1)) (cy.2.2.2.2.2 (7 * k + 2)) (cy.2.2.2.2.2 (7 * k + 3))
  obtain ⟨m0, u0, t0, im0, iu0, W0, tp0, mn0, la0, it0, hI0, aT0, nu0, ab0, be0, mv0, rd0, ms0, tk0, hM0⟩ := (id hV : INV h)
  have a0 := hI0.1
  refine al1 dL_law_615 ?_
  refine xt_aload_nR dL_law_616 rfl rfl ?_
  refine il3 dL_law_617 ?_
  refine xt_iconst (1) dL_law_618 rfl ?_
  refine xt_iadd dL_law_619 ?_
  refine xt_sld (7 * k + 1) (ne_add (a := 7 * k) (b := 1) rfl rfl) (by omega) hL31 dL_law_620 ?_
  refine xt_aload_nR dL_law_621 rfl rfl ?_
  refine il3 dL_law_622 ?_
  refine xt_iconst (2) dL_law_623 rfl ?_
  refine xt_iadd dL_law_624 ?_
  refine xt_sld (7 * k + 2) (ne_add (a := 7 * k) (b := 2) rfl rfl) (by omega) hL31 dL_law_625 ?_
  refine xt_aload_nR dL_law_626 rfl rfl ?_
  refine il3 dL_law_627 ?_
  refine xt_iconst (3) dL_law_628 rfl ?_
  refine xt_iadd dL_law_629 ?_
  refine xt_sld (7 * k + 3) (ne_add (a := 7 * k) (b := 3) rfl rfl) (by omega) hL31 dL_law_630 ?_
  refine sE_L_85 dL_law_631 hC7 a0 ⟨by show _ ≤ 895468; omega, by show _ ≤ 6415845; omega, lb rfl⟩ (fun h2 hP => ?_)
  refine al2 dL_law_634 ?_
  refine xt_aload_nR dL_law_635 rfl rfl ?_
  refine il3 dL_law_636 ?_
  refine xt_iconst (1) dL_law_637 rfl ?_
  refine xt_iadd dL_law_638 ?_
  refine xt_sld (7 * k + 1) (ne_add (a := 7 * k) (b := 1) rfl rfl) (by omega) hL31 dL_law_639 ?_
  refine xt_aload_nR dL_law_640 rfl rfl ?_
  refine il3 dL_law_641 ?_
  refine xt_iconst (2) dL_law_642 rfl ?_
  refine xt_iadd dL_law_643 ?_
  refine xt_sld (7 * k + 2) (ne_add (a := 7 * k) (b := 2) rfl rfl) (by omega) hL31 dL_law_644 ?_
  refine xt_aload_nR dL_law_645 rfl rfl ?_
  refine il3 dL_law_646 ?_
  refine xt_iconst (3) dL_law_647 rfl ?_
  refine xt_iadd dL_law_648 ?_
  refine xt_sld (7 * k + 3) (ne_add (a := 7 * k) (b := 3) rfl rfl) (by omega) hL31 dL_law_649 ?_
  obtain ⟨⟨fs8, e8⟩, hC9⟩ := hC8 h2 hP
  refine sE_L_89 dL_law_650 hC9 e8 ⟨by show _ ≤ 895468; omega, by show _ ≤ 6415845; omega, lb rfl⟩ (fun h3 hI3 => ?_)
  refine xt_icmp_eq 1133 dL_law_653 rfl (fun _ => ?_) (fun q => absurd rfl q)
  refine xt_wid (c2 := 269 + (k + 1)) (s2 := 3858 + 2 * (k + 1)) (by omega) (by omega) ?_
  exact kk h3 n2 hI3 (by omega)
set_option maxHeartbeats 1000000 in
set_option maxRecDepth 100000 in
theorem law_reach {l : Launch} {G : va_G} {cy : ax_Y} {bs : Nat} {nm : String} {k n : Nat} {h : ax_H} (hL : cy.2.2.2.2.1 ≤ 3584) (hk : 7 * k + 7 ≤ cy.2.2.2.2.1) (hV : INV h) (hn : 269 ≤ n) (kk : ∀ (h3 : ax_H) (n3 : Nat), INV h3 → 269 ≤ n3 → ax_T l G cy bs room_1 RL nm cL_law 4 (some .boolean) (fun v _ _ => v = some (.int 1)) 895468 6415845 1133 [some (.retAddr cy.2.2.2.1), some (.ref 0), some (.ref 259), some (.int (nI (7 * k)))] [] h3 n3 (269 + (k + 1)) (3858 + 2 * (k + 1))) : ax_T l G cy bs room_1 RL nm cL_law 4 (some .boolean) (fun v _ _ => v = some (.int 1)) 895468 6415845 658 [some (.retAddr cy.2.2.2.1), some (.ref 0), some (.ref 259), some (.int (nI (7 * k)))] [] h n (269 + k) (3858 + 2 * k) := by
  have hL31 : cy.2.2.2.2.1 < 2 ^ 31 := by omega
  obtain ⟨ans, P, n2, hC7, hle, hC8⟩ := PR_reach hV hn (cy.2.2.2.2.2 (7 * k + 1)) (cy.2.2.2.2.2 (7 * k + 2))
  obtain ⟨m0, u0, t0, im0, iu0, W0, tp0, mn0, la0, it0, hI0, aT0, nu0, ab0, be0, mv0, rd0, ms0, tk0, hM0⟩ := (id hV : INV h)
  have a0 := hI0.1
  refine al1 dL_law_658 ?_
  refine xt_aload_nR dL_law_659 rfl rfl ?_
  refine il3 dL_law_660 ?_
  refine xt_iconst (1) dL_law_661 rfl ?_
  refine xt_iadd dL_law_662 ?_
  refine xt_sld (7 * k + 1) (ne_add (a := 7 * k) (b := 1) rfl rfl) (by omega) hL31 dL_law_663 ?_
  refine xt_aload_nR dL_law_664 rfl rfl ?_
  refine il3 dL_law_665 ?_
  refine xt_iconst (2) dL_law_666 rfl ?_
  refine xt_iadd dL_law_667 ?_
  refine xt_sld (7 * k + 2) (ne_add (a := 7 * k) (b := 2) rfl rfl) (by omega) hL31 dL_law_668 ?_
  refine sE_L_90 dL_law_669 hC7 a0 ⟨by show _ ≤ 895468; omega, by show _ ≤ 6415845; omega, lb rfl⟩ (fun h2 hP => ?_)
  refine al2 dL_law_672 ?_
  refine xt_aload_nR dL_law_673 rfl rfl ?_
  refine il3 dL_law_674 ?_
  refine xt_iconst (1) dL_law_675 rfl ?_
  refine xt_iadd dL_law_676 ?_
  refine xt_sld (7 * k + 1) (ne_add (a := 7 * k) (b := 1) rfl rfl) (by omega) hL31 dL_law_677 ?_
  refine xt_aload_nR dL_law_678 rfl rfl ?_
  refine il3 dL_law_679 ?_
  refine xt_iconst (2) dL_law_680 rfl ?_
  refine xt_iadd dL_law_681 ?_
  refine xt_sld (7 * k + 2) (ne_add (a := 7 * k) (b := 2) rfl rfl) (by omega) hL31 dL_law_682 ?_
  obtain ⟨⟨fs8, e8⟩, hC9⟩ := hC8 h2 hP
  refine sE_L_93 dL_law_683 hC9 e8 ⟨by show _ ≤ 895468; omega, by show _ ≤ 6415845; omega, lb rfl⟩ (fun h3 hI3 => ?_)
  refine xt_icmp_eq 1133 dL_law_686 rfl (fun _ => ?_) (fun q => absurd rfl q)
  refine xt_wid (c2 := 269 + (k + 1)) (s2 := 3858 + 2 * (k + 1)) (by omega) (by omega) ?_
  exact kk h3 n2 hI3 (by omega)
set_option maxHeartbeats 1000000 in
set_option maxRecDepth 100000 in
theorem law_off {l : Launch} {G : va_G} {cy : ax_Y} {bs : Nat} {nm : String} {k n : Nat} {h : ax_H} (hL : cy.2.2.2.2.1 ≤ 3584) (hk : 7 * k + 7 ≤ cy.2.2.2.2.1) (hV : INV h) (hn : 269 ≤ n) (kk : ∀ (h3 : ax_H) (n3 : Nat), INV h3 → 269 ≤ n3 → ax_T l G cy bs room_1 RL nm cL_law 4 (some .boolean) (fun v _ _ => v = some (.int 1)) 895468 6415845 1133 [some (.retAddr cy.2.2.2.1), some (.ref 0), some (.ref 259), some (.int (nI (7 * k)))] [] h3 n3 (269 + (k + 1)) (3858 + 2 * (k + 1))) : ax_T l G cy bs room_1 RL nm cL_law 4 (some .boolean) (fun v _ _ => v = some (.int 1)) 895468 6415845 691 [some (.retAddr cy.2.2.2.1), some (.ref 0), some (.ref 259), some (.int (nI (7 * k)))] [] h n (269 + k) (3858 + 2 * k) := by
  have hL31 : cy.2.2.2.2.1 < 2 ^ 31 := by omega
  obtain ⟨ans, P, n2, hC7, hle, hC8⟩ := PR_off hV hn (cy.2.2.2.2.2 (7 * k + 1))
  obtain ⟨m0, u0, t0, im0, iu0, W0, tp0, mn0, la0, it0, hI0, aT0, nu0, ab0, be0, mv0, rd0, ms0, tk0, hM0⟩ := (id hV : INV h)
  have a0 := hI0.1
  refine al1 dL_law_691 ?_
  refine xt_aload_nR dL_law_692 rfl rfl ?_
  refine il3 dL_law_693 ?_
  refine xt_iconst (1) dL_law_694 rfl ?_
  refine xt_iadd dL_law_695 ?_
  refine xt_sld (7 * k + 1) (ne_add (a := 7 * k) (b := 1) rfl rfl) (by omega) hL31 dL_law_696 ?_
  refine sE_L_94 dL_law_697 hC7 a0 ⟨by show _ ≤ 895468; omega, by show _ ≤ 6415845; omega, lb rfl⟩ (fun h2 hP => ?_)
  refine al2 dL_law_700 ?_
  refine xt_aload_nR dL_law_701 rfl rfl ?_
  refine il3 dL_law_702 ?_
  refine xt_iconst (1) dL_law_703 rfl ?_
  refine xt_iadd dL_law_704 ?_
  refine xt_sld (7 * k + 1) (ne_add (a := 7 * k) (b := 1) rfl rfl) (by omega) hL31 dL_law_705 ?_
  obtain ⟨⟨fs8, e8⟩, hC9⟩ := hC8 h2 hP
  refine sE_L_97 dL_law_706 hC9 e8 ⟨by show _ ≤ 895468; omega, by show _ ≤ 6415845; omega, lb rfl⟩ (fun h3 hI3 => ?_)
  refine xt_icmp_eq 1133 dL_law_709 rfl (fun _ => ?_) (fun q => absurd rfl q)
  refine xt_wid (c2 := 269 + (k + 1)) (s2 := 3858 + 2 * (k + 1)) (by omega) (by omega) ?_
  exact kk h3 n2 hI3 (by omega)
set_option maxHeartbeats 1000000 in
set_option maxRecDepth 100000 in
theorem law_lost {l : Launch} {G : va_G} {cy : ax_Y} {bs : Nat} {nm : String} {k n : Nat} {h : ax_H} (hL : cy.2.2.2.2.1 ≤ 3584) (hk : 7 * k + 7 ≤ cy.2.2.2.2.1) (hV : INV h) (hn : 269 ≤ n) (kk : ∀ (h3 : ax_H) (n3 : Nat), INV h3 → 269 ≤ n3 → ax_T l G cy bs room_1 RL nm cL_law 4 (some .boolean) (fun v _ _ => v = some (.int 1)) 895468 6415845 1133 [some (.retAddr cy.2.2.2.1), some (.ref 0), some (.ref 259), some (.int (nI (7 * k)))] [] h3 n3 (269 + (k + 1)) (3858 + 2 * (k + 1))) : ax_T l G cy bs room_1 RL nm cL_law 4 (some .boolean) (fun v _ _ => v = some (.int 1)) 895468 6415845 714 [some (.retAddr cy.2.2.2.1), some (.ref 0), some (.ref 259), some (.int (nI (7 * k)))] [] h n (269 + k) (3858 + 2 * k) := by
  have hL31 : cy.2.2.2.2.1 < 2 ^ 31 := by omega
  obtain ⟨ans, P, n2, hC7, hle, hC8⟩ := PR_lost hV hn (cy.2.2.2.2.2 (7 * k + 1)) (cy.2.2.2.2.2 (7 * k + 2)) (cy.2.2.2.2.2 (7 * k + 3)) (cy.2.2.2.2.2 (7 * k + 4)) (cy.2.2.2.2.2 (7 * k + 5)) (cy.2.2.2.2.2 (7 * k + 6))
  obtain ⟨m0, u0, t0, im0, iu0, W0, tp0, mn0, la0, it0, hI0, aT0, nu0, ab0, be0, mv0, rd0, ms0, tk0, hM0⟩ := (id hV : INV h)
  have a0 := hI0.1
  refine al1 dL_law_714 ?_
  refine xt_aload_nR dL_law_715 rfl rfl ?_
  refine il3 dL_law_716 ?_
  refine xt_iconst (1) dL_law_717 rfl ?_
  refine xt_iadd dL_law_718 ?_
  refine xt_sld (7 * k + 1) (ne_add (a := 7 * k) (b := 1) rfl rfl) (by omega) hL31 dL_law_719 ?_
  refine xt_aload_nR dL_law_720 rfl rfl ?_
  refine il3 dL_law_721 ?_
  refine xt_iconst (2) dL_law_722 rfl ?_
  refine xt_iadd dL_law_723 ?_
  refine xt_sld (7 * k + 2) (ne_add (a := 7 * k) (b := 2) rfl rfl) (by omega) hL31 dL_law_724 ?_
  refine xt_aload_nR dL_law_725 rfl rfl ?_
  refine il3 dL_law_726 ?_
  refine xt_iconst (3) dL_law_727 rfl ?_
  refine xt_iadd dL_law_728 ?_
  refine xt_sld (7 * k + 3) (ne_add (a := 7 * k) (b := 3) rfl rfl) (by omega) hL31 dL_law_729 ?_
  refine xt_aload_nR dL_law_730 rfl rfl ?_
  refine il3 dL_law_731 ?_
  refine xt_iconst (4) dL_law_732 rfl ?_
  refine xt_iadd dL_law_733 ?_
  refine xt_sld (7 * k + 4) (ne_add (a := 7 * k) (b := 4) rfl rfl) (by omega) hL31 dL_law_734 ?_
  refine xt_aload_nR dL_law_735 rfl rfl ?_
  refine il3 dL_law_736 ?_
  refine xt_iconst (5) dL_law_737 rfl ?_
  refine xt_iadd dL_law_738 ?_
  refine xt_sld (7 * k + 5) (ne_add (a := 7 * k) (b := 5) rfl rfl) (by omega) hL31 dL_law_739 ?_
  refine xt_aload_nR dL_law_740 rfl rfl ?_
  refine il3 dL_law_741 ?_
  refine xt_bipush (6) dL_law_742 rfl ?_
  refine xt_iadd dL_law_744 ?_
  refine xt_sld (7 * k + 6) (ne_add (a := 7 * k) (b := 6) rfl rfl) (by omega) hL31 dL_law_745 ?_
  refine sE_L_98 dL_law_746 hC7 a0 ⟨by show _ ≤ 895468; omega, by show _ ≤ 6415845; omega, lb rfl⟩ (fun h2 hP => ?_)
  refine al2 dL_law_749 ?_
  refine xt_aload_nR dL_law_750 rfl rfl ?_
  refine il3 dL_law_751 ?_
  refine xt_iconst (1) dL_law_752 rfl ?_
  refine xt_iadd dL_law_753 ?_
  refine xt_sld (7 * k + 1) (ne_add (a := 7 * k) (b := 1) rfl rfl) (by omega) hL31 dL_law_754 ?_
  refine xt_aload_nR dL_law_755 rfl rfl ?_
  refine il3 dL_law_756 ?_
  refine xt_iconst (2) dL_law_757 rfl ?_
  refine xt_iadd dL_law_758 ?_
  refine xt_sld (7 * k + 2) (ne_add (a := 7 * k) (b := 2) rfl rfl) (by omega) hL31 dL_law_759 ?_
  refine xt_aload_nR dL_law_760 rfl rfl ?_
  refine il3 dL_law_761 ?_
  refine xt_iconst (3) dL_law_762 rfl ?_
  refine xt_iadd dL_law_763 ?_
  refine xt_sld (7 * k + 3) (ne_add (a := 7 * k) (b := 3) rfl rfl) (by omega) hL31 dL_law_764 ?_
  refine xt_aload_nR dL_law_765 rfl rfl ?_
  refine il3 dL_law_766 ?_
  refine xt_iconst (4) dL_law_767 rfl ?_
  refine xt_iadd dL_law_768 ?_
  refine xt_sld (7 * k + 4) (ne_add (a := 7 * k) (b := 4) rfl rfl) (by omega) hL31 dL_law_769 ?_
  refine xt_aload_nR dL_law_770 rfl rfl ?_
  refine il3 dL_law_771 ?_
  refine xt_iconst (5) dL_law_772 rfl ?_
  refine xt_iadd dL_law_773 ?_
  refine xt_sld (7 * k + 5) (ne_add (a := 7 * k) (b := 5) rfl rfl) (by omega) hL31 dL_law_774 ?_
  refine xt_aload_nR dL_law_775 rfl rfl ?_
  refine il3 dL_law_776 ?_
  refine xt_bipush (6) dL_law_777 rfl ?_
  refine xt_iadd dL_law_779 ?_
  refine xt_sld (7 * k + 6) (ne_add (a := 7 * k) (b := 6) rfl rfl) (by omega) hL31 dL_law_780 ?_
  obtain ⟨⟨fs8, e8⟩, hC9⟩ := hC8 h2 hP
  refine sE_L_102 dL_law_781 hC9 e8 ⟨by show _ ≤ 895468; omega, by show _ ≤ 6415845; omega, lb rfl⟩ (fun h3 hI3 => ?_)
  refine xt_icmp_eq 1133 dL_law_784 rfl (fun _ => ?_) (fun q => absurd rfl q)
  refine xt_wid (c2 := 269 + (k + 1)) (s2 := 3858 + 2 * (k + 1)) (by omega) (by omega) ?_
  exact kk h3 n2 hI3 (by omega)
set_option maxHeartbeats 1000000 in
set_option maxRecDepth 100000 in
theorem law_image {l : Launch} {G : va_G} {cy : ax_Y} {bs : Nat} {nm : String} {k n : Nat} {h : ax_H} (hL : cy.2.2.2.2.1 ≤ 3584) (hk : 7 * k + 7 ≤ cy.2.2.2.2.1) (hV : INV h) (hn : 269 ≤ n) (kk : ∀ (h3 : ax_H) (n3 : Nat), INV h3 → 269 ≤ n3 → ax_T l G cy bs room_1 RL nm cL_law 4 (some .boolean) (fun v _ _ => v = some (.int 1)) 895468 6415845 1133 [some (.retAddr cy.2.2.2.1), some (.ref 0), some (.ref 259), some (.int (nI (7 * k)))] [] h3 n3 (269 + (k + 1)) (3858 + 2 * (k + 1))) : ax_T l G cy bs room_1 RL nm cL_law 4 (some .boolean) (fun v _ _ => v = some (.int 1)) 895468 6415845 789 [some (.retAddr cy.2.2.2.1), some (.ref 0), some (.ref 259), some (.int (nI (7 * k)))] [] h n (269 + k) (3858 + 2 * k) := by
  have hL31 : cy.2.2.2.2.1 < 2 ^ 31 := by omega
  obtain ⟨ans, P, n2, hC7, hle, hC8⟩ := PR_image hV hn 
  obtain ⟨m0, u0, t0, im0, iu0, W0, tp0, mn0, la0, it0, hI0, aT0, nu0, ab0, be0, mv0, rd0, ms0, tk0, hM0⟩ := (id hV : INV h)
  have a0 := hI0.1
  refine al1 dL_law_789 ?_
  refine sE_L_103 dL_law_790 hC7 a0 ⟨by show _ ≤ 895468; omega, by show _ ≤ 6415845; omega, lb rfl⟩ (fun h2 hP => ?_)
  refine al2 dL_law_793 ?_
  obtain ⟨⟨fs8, e8⟩, hC9⟩ := hC8 h2 hP
  refine sE_L_106 dL_law_794 hC9 e8 ⟨by show _ ≤ 895468; omega, by show _ ≤ 6415845; omega, lb rfl⟩ (fun h3 hI3 => ?_)
  refine xt_icmp_eq 1133 dL_law_797 rfl (fun _ => ?_) (fun q => absurd rfl q)
  refine xt_wid (c2 := 269 + (k + 1)) (s2 := 3858 + 2 * (k + 1)) (by omega) (by omega) ?_
  exact kk h3 n2 hI3 (by omega)
set_option maxHeartbeats 1000000 in
set_option maxRecDepth 100000 in
theorem law_restore {l : Launch} {G : va_G} {cy : ax_Y} {bs : Nat} {nm : String} {k n : Nat} {h : ax_H} (hL : cy.2.2.2.2.1 ≤ 3584) (hk : 7 * k + 7 ≤ cy.2.2.2.2.1) (hV : INV h) (hn : 269 ≤ n) (kk : ∀ (h3 : ax_H) (n3 : Nat), INV h3 → 269 ≤ n3 → ax_T l G cy bs room_1 RL nm cL_law 4 (some .boolean) (fun v _ _ => v = some (.int 1)) 895468 6415845 1133 [some (.retAddr cy.2.2.2.1), some (.ref 0), some (.ref 259), some (.int (nI (7 * k)))] [] h3 n3 (269 + (k + 1)) (3858 + 2 * (k + 1))) : ax_T l G cy bs room_1 RL nm cL_law 4 (some .boolean) (fun v _ _ => v = some (.int 1)) 895468 6415845 802 [some (.retAddr cy.2.2.2.1), some (.ref 0), some (.ref 259), some (.int (nI (7 * k)))] [] h n (269 + k) (3858 + 2 * k) := by
  have hL31 : cy.2.2.2.2.1 < 2 ^ 31 := by omega
  obtain ⟨ans, P, n2, hC7, hle, hC8⟩ := PR_restore hV hn 
  obtain ⟨m0, u0, t0, im0, iu0, W0, tp0, mn0, la0, it0, hI0, aT0, nu0, ab0, be0, mv0, rd0, ms0, tk0, hM0⟩ := (id hV : INV h)
  have a0 := hI0.1
  refine al1 dL_law_802 ?_
  refine sE_L_107 dL_law_803 hC7 a0 ⟨by show _ ≤ 895468; omega, by show _ ≤ 6415845; omega, lb rfl⟩ (fun h2 hP => ?_)
  refine al2 dL_law_806 ?_
  obtain ⟨⟨fs8, e8⟩, hC9⟩ := hC8 h2 hP
  refine sE_L_110 dL_law_807 hC9 e8 ⟨by show _ ≤ 895468; omega, by show _ ≤ 6415845; omega, lb rfl⟩ (fun h3 hI3 => ?_)
  refine xt_icmp_eq 1133 dL_law_810 rfl (fun _ => ?_) (fun q => absurd rfl q)
  refine xt_wid (c2 := 269 + (k + 1)) (s2 := 3858 + 2 * (k + 1)) (by omega) (by omega) ?_
  exact kk h3 n2 hI3 (by omega)
set_option maxHeartbeats 1000000 in
set_option maxRecDepth 100000 in
theorem law_came {l : Launch} {G : va_G} {cy : ax_Y} {bs : Nat} {nm : String} {k n : Nat} {h : ax_H} (hL : cy.2.2.2.2.1 ≤ 3584) (hk : 7 * k + 7 ≤ cy.2.2.2.2.1) (hV : INV h) (hn : 269 ≤ n) (kk : ∀ (h3 : ax_H) (n3 : Nat), INV h3 → 269 ≤ n3 → ax_T l G cy bs room_1 RL nm cL_law 4 (some .boolean) (fun v _ _ => v = some (.int 1)) 895468 6415845 1133 [some (.retAddr cy.2.2.2.1), some (.ref 0), some (.ref 259), some (.int (nI (7 * k)))] [] h3 n3 (269 + (k + 1)) (3858 + 2 * (k + 1))) : ax_T l G cy bs room_1 RL nm cL_law 4 (some .boolean) (fun v _ _ => v = some (.int 1)) 895468 6415845 815 [some (.retAddr cy.2.2.2.1), some (.ref 0), some (.ref 259), some (.int (nI (7 * k)))] [] h n (269 + k) (3858 + 2 * k) := by
  have hL31 : cy.2.2.2.2.1 < 2 ^ 31 := by omega
  obtain ⟨ans, P, n2, hC7, hle, hC8⟩ := PR_came hV hn (cy.2.2.2.2.2 (7 * k + 1)) (cy.2.2.2.2.2 (7 * k + 2)) (cy.2.2.2.2.2 (7 * k + 3)) (cy.2.2.2.2.2 (7 * k + 4))
  obtain ⟨m0, u0, t0, im0, iu0, W0, tp0, mn0, la0, it0, hI0, aT0, nu0, ab0, be0, mv0, rd0, ms0, tk0, hM0⟩ := (id hV : INV h)
  have a0 := hI0.1
  refine al1 dL_law_815 ?_
  refine xt_aload_nR dL_law_816 rfl rfl ?_
  refine il3 dL_law_817 ?_
  refine xt_iconst (1) dL_law_818 rfl ?_
  refine xt_iadd dL_law_819 ?_
  refine xt_sld (7 * k + 1) (ne_add (a := 7 * k) (b := 1) rfl rfl) (by omega) hL31 dL_law_820 ?_
  refine xt_aload_nR dL_law_821 rfl rfl ?_
  refine il3 dL_law_822 ?_
  refine xt_iconst (2) dL_law_823 rfl ?_
  refine xt_iadd dL_law_824 ?_
  refine xt_sld (7 * k + 2) (ne_add (a := 7 * k) (b := 2) rfl rfl) (by omega) hL31 dL_law_825 ?_
  refine xt_aload_nR dL_law_826 rfl rfl ?_
  refine il3 dL_law_827 ?_
  refine xt_iconst (3) dL_law_828 rfl ?_
  refine xt_iadd dL_law_829 ?_
  refine xt_sld (7 * k + 3) (ne_add (a := 7 * k) (b := 3) rfl rfl) (by omega) hL31 dL_law_830 ?_
  refine xt_aload_nR dL_law_831 rfl rfl ?_
  refine il3 dL_law_832 ?_
  refine xt_iconst (4) dL_law_833 rfl ?_
  refine xt_iadd dL_law_834 ?_
  refine xt_sld (7 * k + 4) (ne_add (a := 7 * k) (b := 4) rfl rfl) (by omega) hL31 dL_law_835 ?_
  refine sE_L_111 dL_law_836 hC7 a0 ⟨by show _ ≤ 895468; omega, by show _ ≤ 6415845; omega, lb rfl⟩ (fun h2 hP => ?_)
  refine al2 dL_law_839 ?_
  refine xt_aload_nR dL_law_840 rfl rfl ?_
  refine il3 dL_law_841 ?_
  refine xt_iconst (1) dL_law_842 rfl ?_
  refine xt_iadd dL_law_843 ?_
  refine xt_sld (7 * k + 1) (ne_add (a := 7 * k) (b := 1) rfl rfl) (by omega) hL31 dL_law_844 ?_
  refine xt_aload_nR dL_law_845 rfl rfl ?_
  refine il3 dL_law_846 ?_
  refine xt_iconst (2) dL_law_847 rfl ?_
  refine xt_iadd dL_law_848 ?_
  refine xt_sld (7 * k + 2) (ne_add (a := 7 * k) (b := 2) rfl rfl) (by omega) hL31 dL_law_849 ?_
  refine xt_aload_nR dL_law_850 rfl rfl ?_
  refine il3 dL_law_851 ?_
  refine xt_iconst (3) dL_law_852 rfl ?_
  refine xt_iadd dL_law_853 ?_
  refine xt_sld (7 * k + 3) (ne_add (a := 7 * k) (b := 3) rfl rfl) (by omega) hL31 dL_law_854 ?_
  refine xt_aload_nR dL_law_855 rfl rfl ?_
  refine il3 dL_law_856 ?_
  refine xt_iconst (4) dL_law_857 rfl ?_
  refine xt_iadd dL_law_858 ?_
  refine xt_sld (7 * k + 4) (ne_add (a := 7 * k) (b := 4) rfl rfl) (by omega) hL31 dL_law_859 ?_
  obtain ⟨⟨fs8, e8⟩, hC9⟩ := hC8 h2 hP
  refine sE_L_114 dL_law_860 hC9 e8 ⟨by show _ ≤ 895468; omega, by show _ ≤ 6415845; omega, lb rfl⟩ (fun h3 hI3 => ?_)
  refine xt_icmp_eq 1133 dL_law_863 rfl (fun _ => ?_) (fun q => absurd rfl q)
  refine xt_wid (c2 := 269 + (k + 1)) (s2 := 3858 + 2 * (k + 1)) (by omega) (by omega) ?_
  exact kk h3 n2 hI3 (by omega)
set_option maxHeartbeats 1000000 in
set_option maxRecDepth 100000 in
theorem law_film {l : Launch} {G : va_G} {cy : ax_Y} {bs : Nat} {nm : String} {k n : Nat} {h : ax_H} (hL : cy.2.2.2.2.1 ≤ 3584) (hk : 7 * k + 7 ≤ cy.2.2.2.2.1) (hV : INV h) (hn : 269 ≤ n) (kk : ∀ (h3 : ax_H) (n3 : Nat), INV h3 → 269 ≤ n3 → ax_T l G cy bs room_1 RL nm cL_law 4 (some .boolean) (fun v _ _ => v = some (.int 1)) 895468 6415845 1133 [some (.retAddr cy.2.2.2.1), some (.ref 0), some (.ref 259), some (.int (nI (7 * k)))] [] h3 n3 (269 + (k + 1)) (3858 + 2 * (k + 1))) : ax_T l G cy bs room_1 RL nm cL_law 4 (some .boolean) (fun v _ _ => v = some (.int 1)) 895468 6415845 868 [some (.retAddr cy.2.2.2.1), some (.ref 0), some (.ref 259), some (.int (nI (7 * k)))] [] h n (269 + k) (3858 + 2 * k) := by
  have hL31 : cy.2.2.2.2.1 < 2 ^ 31 := by omega
  obtain ⟨ans, P, n2, hC7, hle, hC8⟩ := PR_film hV hn (cy.2.2.2.2.2 (7 * k + 1)) (cy.2.2.2.2.2 (7 * k + 2)) (cy.2.2.2.2.2 (7 * k + 3)) (cy.2.2.2.2.2 (7 * k + 4))
  obtain ⟨m0, u0, t0, im0, iu0, W0, tp0, mn0, la0, it0, hI0, aT0, nu0, ab0, be0, mv0, rd0, ms0, tk0, hM0⟩ := (id hV : INV h)
  have a0 := hI0.1
  refine al1 dL_law_868 ?_
  refine xt_aload_nR dL_law_869 rfl rfl ?_
  refine il3 dL_law_870 ?_
  refine xt_iconst (1) dL_law_871 rfl ?_
  refine xt_iadd dL_law_872 ?_
  refine xt_sld (7 * k + 1) (ne_add (a := 7 * k) (b := 1) rfl rfl) (by omega) hL31 dL_law_873 ?_
  refine xt_aload_nR dL_law_874 rfl rfl ?_
  refine il3 dL_law_875 ?_
  refine xt_iconst (2) dL_law_876 rfl ?_
  refine xt_iadd dL_law_877 ?_
  refine xt_sld (7 * k + 2) (ne_add (a := 7 * k) (b := 2) rfl rfl) (by omega) hL31 dL_law_878 ?_
  refine xt_aload_nR dL_law_879 rfl rfl ?_
  refine il3 dL_law_880 ?_
  refine xt_iconst (3) dL_law_881 rfl ?_
  refine xt_iadd dL_law_882 ?_
  refine xt_sld (7 * k + 3) (ne_add (a := 7 * k) (b := 3) rfl rfl) (by omega) hL31 dL_law_883 ?_
  refine xt_aload_nR dL_law_884 rfl rfl ?_
  refine il3 dL_law_885 ?_
  refine xt_iconst (4) dL_law_886 rfl ?_
  refine xt_iadd dL_law_887 ?_
  refine xt_sld (7 * k + 4) (ne_add (a := 7 * k) (b := 4) rfl rfl) (by omega) hL31 dL_law_888 ?_
  refine sE_L_115 dL_law_889 hC7 a0 ⟨by show _ ≤ 895468; omega, by show _ ≤ 6415845; omega, lb rfl⟩ (fun h2 hP => ?_)
  refine al2 dL_law_892 ?_
  refine xt_aload_nR dL_law_893 rfl rfl ?_
  refine il3 dL_law_894 ?_
  refine xt_iconst (1) dL_law_895 rfl ?_
  refine xt_iadd dL_law_896 ?_
  refine xt_sld (7 * k + 1) (ne_add (a := 7 * k) (b := 1) rfl rfl) (by omega) hL31 dL_law_897 ?_
  refine xt_aload_nR dL_law_898 rfl rfl ?_
  refine il3 dL_law_899 ?_
  refine xt_iconst (2) dL_law_900 rfl ?_
  refine xt_iadd dL_law_901 ?_
  refine xt_sld (7 * k + 2) (ne_add (a := 7 * k) (b := 2) rfl rfl) (by omega) hL31 dL_law_902 ?_
  refine xt_aload_nR dL_law_903 rfl rfl ?_
  refine il3 dL_law_904 ?_
  refine xt_iconst (3) dL_law_905 rfl ?_
  refine xt_iadd dL_law_906 ?_
  refine xt_sld (7 * k + 3) (ne_add (a := 7 * k) (b := 3) rfl rfl) (by omega) hL31 dL_law_907 ?_
  refine xt_aload_nR dL_law_908 rfl rfl ?_
  refine il3 dL_law_909 ?_
  refine xt_iconst (4) dL_law_910 rfl ?_
  refine xt_iadd dL_law_911 ?_
  refine xt_sld (7 * k + 4) (ne_add (a := 7 * k) (b := 4) rfl rfl) (by omega) hL31 dL_law_912 ?_
  obtain ⟨⟨fs8, e8⟩, hC9⟩ := hC8 h2 hP
  refine sE_L_118 dL_law_913 hC9 e8 ⟨by show _ ≤ 895468; omega, by show _ ≤ 6415845; omega, lb rfl⟩ (fun h3 hI3 => ?_)
  refine xt_icmp_eq 1133 dL_law_916 rfl (fun _ => ?_) (fun q => absurd rfl q)
  refine xt_wid (c2 := 269 + (k + 1)) (s2 := 3858 + 2 * (k + 1)) (by omega) (by omega) ?_
  exact kk h3 n2 hI3 (by omega)
set_option maxHeartbeats 1000000 in
set_option maxRecDepth 100000 in
theorem law_sheet {l : Launch} {G : va_G} {cy : ax_Y} {bs : Nat} {nm : String} {k n : Nat} {h : ax_H} (hL : cy.2.2.2.2.1 ≤ 3584) (hk : 7 * k + 7 ≤ cy.2.2.2.2.1) (hV : INV h) (hn : 269 ≤ n) (kk : ∀ (h3 : ax_H) (n3 : Nat), INV h3 → 269 ≤ n3 → ax_T l G cy bs room_1 RL nm cL_law 4 (some .boolean) (fun v _ _ => v = some (.int 1)) 895468 6415845 1133 [some (.retAddr cy.2.2.2.1), some (.ref 0), some (.ref 259), some (.int (nI (7 * k)))] [] h3 n3 (269 + (k + 1)) (3858 + 2 * (k + 1))) : ax_T l G cy bs room_1 RL nm cL_law 4 (some .boolean) (fun v _ _ => v = some (.int 1)) 895468 6415845 921 [some (.retAddr cy.2.2.2.1), some (.ref 0), some (.ref 259), some (.int (nI (7 * k)))] [] h n (269 + k) (3858 + 2 * k) := by
  have hL31 : cy.2.2.2.2.1 < 2 ^ 31 := by omega
  obtain ⟨ans, P, n2, hC7, hle, hC8⟩ := PR_sheet hV hn (cy.2.2.2.2.2 (7 * k + 1)) (cy.2.2.2.2.2 (7 * k + 2)) (cy.2.2.2.2.2 (7 * k + 3))
  obtain ⟨m0, u0, t0, im0, iu0, W0, tp0, mn0, la0, it0, hI0, aT0, nu0, ab0, be0, mv0, rd0, ms0, tk0, hM0⟩ := (id hV : INV h)
  have a0 := hI0.1
  refine al1 dL_law_921 ?_
  refine xt_aload_nR dL_law_922 rfl rfl ?_
  refine il3 dL_law_923 ?_
  refine xt_iconst (1) dL_law_924 rfl ?_
  refine xt_iadd dL_law_925 ?_
  refine xt_sld (7 * k + 1) (ne_add (a := 7 * k) (b := 1) rfl rfl) (by omega) hL31 dL_law_926 ?_
  refine xt_aload_nR dL_law_927 rfl rfl ?_
  refine il3 dL_law_928 ?_
  refine xt_iconst (2) dL_law_929 rfl ?_
  refine xt_iadd dL_law_930 ?_
  refine xt_sld (7 * k + 2) (ne_add (a := 7 * k) (b := 2) rfl rfl) (by omega) hL31 dL_law_931 ?_
  refine xt_aload_nR dL_law_932 rfl rfl ?_
  refine il3 dL_law_933 ?_
  refine xt_iconst (3) dL_law_934 rfl ?_
  refine xt_iadd dL_law_935 ?_
  refine xt_sld (7 * k + 3) (ne_add (a := 7 * k) (b := 3) rfl rfl) (by omega) hL31 dL_law_936 ?_
  refine sE_L_119 dL_law_937 hC7 a0 ⟨by show _ ≤ 895468; omega, by show _ ≤ 6415845; omega, lb rfl⟩ (fun h2 hP => ?_)
  refine al2 dL_law_940 ?_
  refine xt_aload_nR dL_law_941 rfl rfl ?_
  refine il3 dL_law_942 ?_
  refine xt_iconst (1) dL_law_943 rfl ?_
  refine xt_iadd dL_law_944 ?_
  refine xt_sld (7 * k + 1) (ne_add (a := 7 * k) (b := 1) rfl rfl) (by omega) hL31 dL_law_945 ?_
  refine xt_aload_nR dL_law_946 rfl rfl ?_
  refine il3 dL_law_947 ?_
  refine xt_iconst (2) dL_law_948 rfl ?_
  refine xt_iadd dL_law_949 ?_
  refine xt_sld (7 * k + 2) (ne_add (a := 7 * k) (b := 2) rfl rfl) (by omega) hL31 dL_law_950 ?_
  refine xt_aload_nR dL_law_951 rfl rfl ?_
  refine il3 dL_law_952 ?_
  refine xt_iconst (3) dL_law_953 rfl ?_
  refine xt_iadd dL_law_954 ?_
  refine xt_sld (7 * k + 3) (ne_add (a := 7 * k) (b := 3) rfl rfl) (by omega) hL31 dL_law_955 ?_
  obtain ⟨⟨fs8, e8⟩, hC9⟩ := hC8 h2 hP
  refine sE_L_122 dL_law_956 hC9 e8 ⟨by show _ ≤ 895468; omega, by show _ ≤ 6415845; omega, lb rfl⟩ (fun h3 hI3 => ?_)
  refine xt_icmp_eq 1133 dL_law_959 rfl (fun _ => ?_) (fun q => absurd rfl q)
  refine xt_wid (c2 := 269 + (k + 1)) (s2 := 3858 + 2 * (k + 1)) (by omega) (by omega) ?_
  exact kk h3 n2 hI3 (by omega)
set_option maxHeartbeats 1000000 in
set_option maxRecDepth 100000 in
theorem law_drop {l : Launch} {G : va_G} {cy : ax_Y} {bs : Nat} {nm : String} {k n : Nat} {h : ax_H} (hL : cy.2.2.2.2.1 ≤ 3584) (hk : 7 * k + 7 ≤ cy.2.2.2.2.1) (hV : INV h) (hn : 269 ≤ n) (kk : ∀ (h3 : ax_H) (n3 : Nat), INV h3 → 269 ≤ n3 → ax_T l G cy bs room_1 RL nm cL_law 4 (some .boolean) (fun v _ _ => v = some (.int 1)) 895468 6415845 1133 [some (.retAddr cy.2.2.2.1), some (.ref 0), some (.ref 259), some (.int (nI (7 * k)))] [] h3 n3 (269 + (k + 1)) (3858 + 2 * (k + 1))) : ax_T l G cy bs room_1 RL nm cL_law 4 (some .boolean) (fun v _ _ => v = some (.int 1)) 895468 6415845 964 [some (.retAddr cy.2.2.2.1), some (.ref 0), some (.ref 259), some (.int (nI (7 * k)))] [] h n (269 + k) (3858 + 2 * k) := by
  have hL31 : cy.2.2.2.2.1 < 2 ^ 31 := by omega
  obtain ⟨ans, P, n2, hC7, hle, hC8⟩ := PR_drop hV hn (cy.2.2.2.2.2 (7 * k + 1))
  obtain ⟨m0, u0, t0, im0, iu0, W0, tp0, mn0, la0, it0, hI0, aT0, nu0, ab0, be0, mv0, rd0, ms0, tk0, hM0⟩ := (id hV : INV h)
  have a0 := hI0.1
  refine al1 dL_law_964 ?_
  refine xt_aload_nR dL_law_965 rfl rfl ?_
  refine il3 dL_law_966 ?_
  refine xt_iconst (1) dL_law_967 rfl ?_
  refine xt_iadd dL_law_968 ?_
  refine xt_sld (7 * k + 1) (ne_add (a := 7 * k) (b := 1) rfl rfl) (by omega) hL31 dL_law_969 ?_
  refine sE_L_123 dL_law_970 hC7 a0 ⟨by show _ ≤ 895468; omega, by show _ ≤ 6415845; omega, lb rfl⟩ (fun h2 hP => ?_)
  refine al2 dL_law_973 ?_
  refine xt_aload_nR dL_law_974 rfl rfl ?_
  refine il3 dL_law_975 ?_
  refine xt_iconst (1) dL_law_976 rfl ?_
  refine xt_iadd dL_law_977 ?_
  refine xt_sld (7 * k + 1) (ne_add (a := 7 * k) (b := 1) rfl rfl) (by omega) hL31 dL_law_978 ?_
  obtain ⟨⟨fs8, e8⟩, hC9⟩ := hC8 h2 hP
  refine sE_L_126 dL_law_979 hC9 e8 ⟨by show _ ≤ 895468; omega, by show _ ≤ 6415845; omega, lb rfl⟩ (fun h3 hI3 => ?_)
  refine xt_icmp_eq 1133 dL_law_982 rfl (fun _ => ?_) (fun q => absurd rfl q)
  refine xt_wid (c2 := 269 + (k + 1)) (s2 := 3858 + 2 * (k + 1)) (by omega) (by omega) ?_
  exact kk h3 n2 hI3 (by omega)
set_option maxHeartbeats 1000000 in
set_option maxRecDepth 100000 in
theorem law_item {l : Launch} {G : va_G} {cy : ax_Y} {bs : Nat} {nm : String} {k n : Nat} {h : ax_H} (hL : cy.2.2.2.2.1 ≤ 3584) (hk : 7 * k + 7 ≤ cy.2.2.2.2.1) (hV : INV h) (hn : 269 ≤ n) (kk : ∀ (h3 : ax_H) (n3 : Nat), INV h3 → 269 ≤ n3 → ax_T l G cy bs room_1 RL nm cL_law 4 (some .boolean) (fun v _ _ => v = some (.int 1)) 895468 6415845 1133 [some (.retAddr cy.2.2.2.1), some (.ref 0), some (.ref 259), some (.int (nI (7 * k)))] [] h3 n3 (269 + (k + 1)) (3858 + 2 * (k + 1))) : ax_T l G cy bs room_1 RL nm cL_law 4 (some .boolean) (fun v _ _ => v = some (.int 1)) 895468 6415845 987 [some (.retAddr cy.2.2.2.1), some (.ref 0), some (.ref 259), some (.int (nI (7 * k)))] [] h n (269 + k) (3858 + 2 * k) := by
  have hL31 : cy.2.2.2.2.1 < 2 ^ 31 := by omega
  obtain ⟨ans, P, n2, hC7, hle, hC8⟩ := PR_item hV hn (cy.2.2.2.2.2 (7 * k + 1)) (cy.2.2.2.2.2 (7 * k + 2)) (cy.2.2.2.2.2 (7 * k + 3)) (((cy.2.2.2.2.2 (7 * k + 4)).toInt64 <<< ((32 : Int32).toInt64 &&& 63)) ||| ((cy.2.2.2.2.2 (7 * k + 5)).toInt64 &&& 4294967295))
  obtain ⟨m0, u0, t0, im0, iu0, W0, tp0, mn0, la0, it0, hI0, aT0, nu0, ab0, be0, mv0, rd0, ms0, tk0, hM0⟩ := (id hV : INV h)
  have a0 := hI0.1
  refine al1 dL_law_987 ?_
  refine xt_aload_nR dL_law_988 rfl rfl ?_
  refine il3 dL_law_989 ?_
  refine xt_iconst (1) dL_law_990 rfl ?_
  refine xt_iadd dL_law_991 ?_
  refine xt_sld (7 * k + 1) (ne_add (a := 7 * k) (b := 1) rfl rfl) (by omega) hL31 dL_law_992 ?_
  refine xt_aload_nR dL_law_993 rfl rfl ?_
  refine il3 dL_law_994 ?_
  refine xt_iconst (2) dL_law_995 rfl ?_
  refine xt_iadd dL_law_996 ?_
  refine xt_sld (7 * k + 2) (ne_add (a := 7 * k) (b := 2) rfl rfl) (by omega) hL31 dL_law_997 ?_
  refine xt_aload_nR dL_law_998 rfl rfl ?_
  refine il3 dL_law_999 ?_
  refine xt_iconst (3) dL_law_1000 rfl ?_
  refine xt_iadd dL_law_1001 ?_
  refine xt_sld (7 * k + 3) (ne_add (a := 7 * k) (b := 3) rfl rfl) (by omega) hL31 dL_law_1002 ?_
  refine xt_aload_nR dL_law_1003 rfl rfl ?_
  refine il3 dL_law_1004 ?_
  refine xt_iconst (4) dL_law_1005 rfl ?_
  refine xt_iadd dL_law_1006 ?_
  refine xt_sld (7 * k + 4) (ne_add (a := 7 * k) (b := 4) rfl rfl) (by omega) hL31 dL_law_1007 ?_
  refine xt_i2l dL_law_1008 ?_
  refine xt_bipush (32) dL_law_1009 rfl ?_
  refine xt_lshl dL_law_1011 ?_
  refine xt_aload_nR dL_law_1012 rfl rfl ?_
  refine il3 dL_law_1013 ?_
  refine xt_iconst (5) dL_law_1014 rfl ?_
  refine xt_iadd dL_law_1015 ?_
  refine xt_sld (7 * k + 5) (ne_add (a := 7 * k) (b := 5) rfl rfl) (by omega) hL31 dL_law_1016 ?_
  refine xt_i2l dL_law_1017 ?_
  refine k_L_127 dL_law_1018 ?_
  refine xt_land dL_law_1021 ?_
  refine xt_lor dL_law_1022 ?_
  refine sE_L_129 dL_law_1023 hC7 a0 ⟨by show _ ≤ 895468; omega, by show _ ≤ 6415845; omega, lb rfl⟩ (fun h2 hP => ?_)
  refine al2 dL_law_1026 ?_
  refine xt_aload_nR dL_law_1027 rfl rfl ?_
  refine il3 dL_law_1028 ?_
  refine xt_iconst (1) dL_law_1029 rfl ?_
  refine xt_iadd dL_law_1030 ?_
  refine xt_sld (7 * k + 1) (ne_add (a := 7 * k) (b := 1) rfl rfl) (by omega) hL31 dL_law_1031 ?_
  refine xt_aload_nR dL_law_1032 rfl rfl ?_
  refine il3 dL_law_1033 ?_
  refine xt_iconst (2) dL_law_1034 rfl ?_
  refine xt_iadd dL_law_1035 ?_
  refine xt_sld (7 * k + 2) (ne_add (a := 7 * k) (b := 2) rfl rfl) (by omega) hL31 dL_law_1036 ?_
  refine xt_aload_nR dL_law_1037 rfl rfl ?_
  refine il3 dL_law_1038 ?_
  refine xt_iconst (3) dL_law_1039 rfl ?_
  refine xt_iadd dL_law_1040 ?_
  refine xt_sld (7 * k + 3) (ne_add (a := 7 * k) (b := 3) rfl rfl) (by omega) hL31 dL_law_1041 ?_
  refine xt_aload_nR dL_law_1042 rfl rfl ?_
  refine il3 dL_law_1043 ?_
  refine xt_iconst (4) dL_law_1044 rfl ?_
  refine xt_iadd dL_law_1045 ?_
  refine xt_sld (7 * k + 4) (ne_add (a := 7 * k) (b := 4) rfl rfl) (by omega) hL31 dL_law_1046 ?_
  refine xt_i2l dL_law_1047 ?_
  refine xt_bipush (32) dL_law_1048 rfl ?_
  refine xt_lshl dL_law_1050 ?_
  refine xt_aload_nR dL_law_1051 rfl rfl ?_
  refine il3 dL_law_1052 ?_
  refine xt_iconst (5) dL_law_1053 rfl ?_
  refine xt_iadd dL_law_1054 ?_
  refine xt_sld (7 * k + 5) (ne_add (a := 7 * k) (b := 5) rfl rfl) (by omega) hL31 dL_law_1055 ?_
  refine xt_i2l dL_law_1056 ?_
  refine k_L_127 dL_law_1057 ?_
  refine xt_land dL_law_1060 ?_
  refine xt_lor dL_law_1061 ?_
  obtain ⟨⟨fs8, e8⟩, hC9⟩ := hC8 h2 hP
  refine sE_L_133 dL_law_1062 hC9 e8 ⟨by show _ ≤ 895468; omega, by show _ ≤ 6415845; omega, lb rfl⟩ (fun h3 hI3 => ?_)
  refine xt_icmp_eq 1133 dL_law_1065 rfl (fun _ => ?_) (fun q => absurd rfl q)
  refine xt_wid (c2 := 269 + (k + 1)) (s2 := 3858 + 2 * (k + 1)) (by omega) (by omega) ?_
  exact kk h3 n2 hI3 (by omega)
set_option maxHeartbeats 1000000 in
set_option maxRecDepth 100000 in
theorem law_copy {l : Launch} {G : va_G} {cy : ax_Y} {bs : Nat} {nm : String} {k n : Nat} {h : ax_H} (hL : cy.2.2.2.2.1 ≤ 3584) (hk : 7 * k + 7 ≤ cy.2.2.2.2.1) (hV : INV h) (hn : 269 ≤ n) (kk : ∀ (h3 : ax_H) (n3 : Nat), INV h3 → 269 ≤ n3 → ax_T l G cy bs room_1 RL nm cL_law 4 (some .boolean) (fun v _ _ => v = some (.int 1)) 895468 6415845 1133 [some (.retAddr cy.2.2.2.1), some (.ref 0), some (.ref 259), some (.int (nI (7 * k)))] [] h3 n3 (269 + (k + 1)) (3858 + 2 * (k + 1))) : ax_T l G cy bs room_1 RL nm cL_law 4 (some .boolean) (fun v _ _ => v = some (.int 1)) 895468 6415845 1070 [some (.retAddr cy.2.2.2.1), some (.ref 0), some (.ref 259), some (.int (nI (7 * k)))] [] h n (269 + k) (3858 + 2 * k) := by
  have hL31 : cy.2.2.2.2.1 < 2 ^ 31 := by omega
  obtain ⟨ans, P, n2, hC7, hle, hC8⟩ := PR_copy hV hn (cy.2.2.2.2.2 (7 * k + 1)) (cy.2.2.2.2.2 (7 * k + 2)) (cy.2.2.2.2.2 (7 * k + 3)) (cy.2.2.2.2.2 (7 * k + 4)) (cy.2.2.2.2.2 (7 * k + 5))
  obtain ⟨m0, u0, t0, im0, iu0, W0, tp0, mn0, la0, it0, hI0, aT0, nu0, ab0, be0, mv0, rd0, ms0, tk0, hM0⟩ := (id hV : INV h)
  have a0 := hI0.1
  refine al1 dL_law_1070 ?_
  refine xt_aload_nR dL_law_1071 rfl rfl ?_
  refine il3 dL_law_1072 ?_
  refine xt_iconst (1) dL_law_1073 rfl ?_
  refine xt_iadd dL_law_1074 ?_
  refine xt_sld (7 * k + 1) (ne_add (a := 7 * k) (b := 1) rfl rfl) (by omega) hL31 dL_law_1075 ?_
  refine xt_aload_nR dL_law_1076 rfl rfl ?_
  refine il3 dL_law_1077 ?_
  refine xt_iconst (2) dL_law_1078 rfl ?_
  refine xt_iadd dL_law_1079 ?_
  refine xt_sld (7 * k + 2) (ne_add (a := 7 * k) (b := 2) rfl rfl) (by omega) hL31 dL_law_1080 ?_
  refine xt_aload_nR dL_law_1081 rfl rfl ?_
  refine il3 dL_law_1082 ?_
  refine xt_iconst (3) dL_law_1083 rfl ?_
  refine xt_iadd dL_law_1084 ?_
  refine xt_sld (7 * k + 3) (ne_add (a := 7 * k) (b := 3) rfl rfl) (by omega) hL31 dL_law_1085 ?_
  refine xt_aload_nR dL_law_1086 rfl rfl ?_
  refine il3 dL_law_1087 ?_
  refine xt_iconst (4) dL_law_1088 rfl ?_
  refine xt_iadd dL_law_1089 ?_
  refine xt_sld (7 * k + 4) (ne_add (a := 7 * k) (b := 4) rfl rfl) (by omega) hL31 dL_law_1090 ?_
  refine xt_aload_nR dL_law_1091 rfl rfl ?_
  refine il3 dL_law_1092 ?_
  refine xt_iconst (5) dL_law_1093 rfl ?_
  refine xt_iadd dL_law_1094 ?_
  refine xt_sld (7 * k + 5) (ne_add (a := 7 * k) (b := 5) rfl rfl) (by omega) hL31 dL_law_1095 ?_
  refine sE_L_134 dL_law_1096 hC7 a0 ⟨by show _ ≤ 895468; omega, by show _ ≤ 6415845; omega, lb rfl⟩ (fun h2 hP => ?_)
  refine al2 dL_law_1099 ?_
  refine xt_aload_nR dL_law_1100 rfl rfl ?_
  refine il3 dL_law_1101 ?_
  refine xt_iconst (1) dL_law_1102 rfl ?_
  refine xt_iadd dL_law_1103 ?_
  refine xt_sld (7 * k + 1) (ne_add (a := 7 * k) (b := 1) rfl rfl) (by omega) hL31 dL_law_1104 ?_
  refine xt_aload_nR dL_law_1105 rfl rfl ?_
  refine il3 dL_law_1106 ?_
  refine xt_iconst (2) dL_law_1107 rfl ?_
  refine xt_iadd dL_law_1108 ?_
  refine xt_sld (7 * k + 2) (ne_add (a := 7 * k) (b := 2) rfl rfl) (by omega) hL31 dL_law_1109 ?_
  refine xt_aload_nR dL_law_1110 rfl rfl ?_
  refine il3 dL_law_1111 ?_
  refine xt_iconst (3) dL_law_1112 rfl ?_
  refine xt_iadd dL_law_1113 ?_
  refine xt_sld (7 * k + 3) (ne_add (a := 7 * k) (b := 3) rfl rfl) (by omega) hL31 dL_law_1114 ?_
  refine xt_aload_nR dL_law_1115 rfl rfl ?_
  refine il3 dL_law_1116 ?_
  refine xt_iconst (4) dL_law_1117 rfl ?_
  refine xt_iadd dL_law_1118 ?_
  refine xt_sld (7 * k + 4) (ne_add (a := 7 * k) (b := 4) rfl rfl) (by omega) hL31 dL_law_1119 ?_
  refine xt_aload_nR dL_law_1120 rfl rfl ?_
  refine il3 dL_law_1121 ?_
  refine xt_iconst (5) dL_law_1122 rfl ?_
  refine xt_iadd dL_law_1123 ?_
  refine xt_sld (7 * k + 5) (ne_add (a := 7 * k) (b := 5) rfl rfl) (by omega) hL31 dL_law_1124 ?_
  obtain ⟨⟨fs8, e8⟩, hC9⟩ := hC8 h2 hP
  refine sE_L_138 dL_law_1125 hC9 e8 ⟨by show _ ≤ 895468; omega, by show _ ≤ 6415845; omega, lb rfl⟩ (fun h3 hI3 => ?_)
  refine xt_icmp_eq 1133 dL_law_1128 rfl (fun _ => ?_) (fun q => absurd rfl q)
  refine xt_wid (c2 := 269 + (k + 1)) (s2 := 3858 + 2 * (k + 1)) (by omega) (by omega) ?_
  exact kk h3 n2 hI3 (by omega)
def W00 : Nat → Nat → Int32 := fun q c => w00 (61 * q + c)
theorem jn_W00 : jn W00 = w00 := by
  funext j
  show w00 (61 * (j / 61) + j % 61) = w00 j
  rw [Nat.div_add_mod]
theorem mn00_n : ∀ s, s < 4 → mn00 s = -1 := by decide +kernel
theorem w00_0 : (∀ j, j < 3 → W00 0 j = 0) ∧ W00 0 3 = 0 ∧ W00 0 4 = 1 ∧ W00 0 5 = -1 ∧ W00 0 12 = 0 := by decide +kernel
set_option maxHeartbeats 1000000 in
set_option maxRecDepth 100000 in
/-- the law from its entry on -/
theorem law_all {l : Launch} {G : va_G} {cy : ax_Y} {bs : Nat} {nm : String} (hL : cy.2.2.2.2.1 ≤ 3584) : ax_T l G cy bs room_1 RL nm cL_law 4 (some .boolean) (fun v _ _ => v = some (.int 1)) 895468 6415845 0 [some (.retAddr cy.2.2.2.1), none, none, none] [] (fun _ => none) 0 0 0 := by
  have hL31 : cy.2.2.2.2.1 < 2 ^ 31 := by omega
  have ei : (nI cy.2.2.2.2.1 - 7).toInt = (cy.2.2.2.2.1 : Int) - 7 := by
    rw [Int32.toInt_sub, nI_toInt hL31, show (7 : Int32).toInt = 7 from rfl]; apply Int.bmod_eq_of_le <;> omega
  have lp : ∀ (d k : Nat), cy.2.2.2.2.1 ≤ 7 * k + d → 7 * k ≤ cy.2.2.2.2.1 → ∀ (h : ax_H) (n : Nat), INV h → 269 ≤ n → ax_T l G cy bs room_1 RL nm cL_law 4 (some .boolean) (fun v _ _ => v = some (.int 1)) 895468 6415845 18 [some (.retAddr cy.2.2.2.1), some (.ref 0), some (.ref 259), some (.int (nI (7 * k)))] [] h n (269 + k) (3858 + 2 * k) := by
    intro d
    induction d with
    | zero =>
      intro k hd hk h n hV hn
      have hex : nI cy.2.2.2.2.1 - 7 < nI (7 * k) := by rw [fb_lt, ei, nI_toInt (by omega)]; omega
      refine il3 dL_law_18 ?_
      refine xt_aload_nR dL_law_19 rfl rfl ?_
      refine xt_slen dL_law_20 ?_
      refine xt_bipush (7) dL_law_21 rfl ?_
      refine xt_isub dL_law_23 ?_
      refine xt_icmp_gt 1139 dL_law_24 rfl (fun _ => ?_) (fun q => absurd hex q)
      refine xt_iconst (1) dL_law_1139 rfl ?_
      exact xt_zret dL_law_1140 rfl (Or.inr rfl) (by omega) (by omega) rfl
    | succ d ih =>
      intro k hd hk h n hV hn
      by_cases hb : 7 * k + 7 ≤ cy.2.2.2.2.1
      · have hst : ¬ nI cy.2.2.2.2.1 - 7 < nI (7 * k) := by rw [fb_lt, ei, nI_toInt (by omega)]; omega
        have kk : ∀ (h3 : ax_H) (n3 : Nat), INV h3 → 269 ≤ n3 → ax_T l G cy bs room_1 RL nm cL_law 4 (some .boolean) (fun v _ _ => v = some (.int 1)) 895468 6415845 1133 [some (.retAddr cy.2.2.2.1), some (.ref 0), some (.ref 259), some (.int (nI (7 * k)))] [] h3 n3 (269 + (k + 1)) (3858 + 2 * (k + 1)) := by
          intro h3 n3 hV3 hn3
          refine inc3 (nI (7 * (k + 1))) dL_law_1133 ((nI_add (7 * k) 7).trans (congrArg nI (by omega))) (by decide) rfl ?_
          refine xt_goto 18 dL_law_1136 rfl ?_
          exact ih (k + 1) (by omega) (by omega) h3 n3 hV3 hn3
        obtain ⟨j, hj, ej⟩ := pk_andE (cy.2.2.2.2.2 (7 * k)) (m := 31) 5 (by decide)
        refine il3 dL_law_18 ?_
        refine xt_aload_nR dL_law_19 rfl rfl ?_
        refine xt_slen dL_law_20 ?_
        refine xt_bipush (7) dL_law_21 rfl ?_
        refine xt_isub dL_law_23 ?_
        refine xt_icmp_gt 1139 dL_law_24 rfl (fun q => absurd q hst) (fun _ => ?_)
        refine xt_aload_nR dL_law_27 rfl rfl ?_
        refine il3 dL_law_28 ?_
        refine xt_sld (7 * k) rfl (by omega) hL31 dL_law_29 ?_
        refine xt_bipush (31) dL_law_30 rfl ?_
        refine xt_iand dL_law_32 ?_
        refine xt_eqv (nI j) ej ?_
        rcases (show j = 0 ∨ j = 1 ∨ j = 2 ∨ j = 3 ∨ j = 4 ∨ j = 5 ∨ j = 6 ∨ j = 7 ∨ j = 8 ∨ j = 9 ∨ j = 10 ∨ j = 11 ∨ j = 12 ∨ j = 13 ∨ j = 14 ∨ j = 15 ∨ j = 16 ∨ j = 17 ∨ j = 18 ∨ j = 19 ∨ j = 20 ∨ j = 21 ∨ j = 22 ∨ j = 23 ∨ j = 24 ∨ j = 25 ∨ j = 26 ∨ j = 27 ∨ j = 28 ∨ 29 ≤ j by omega) with rfl | rfl | rfl | rfl | rfl | rfl | rfl | rfl | rfl | rfl | rfl | rfl | rfl | rfl | rfl | rfl | rfl | rfl | rfl | rfl | rfl | rfl | rfl | rfl | rfl | rfl | rfl | rfl | rfl | hj29
        · refine xt_tableIn (off := 131) 164 dL_law_33 (by decide) (by decide) (by decide) rfl ?_
          exact law_place hL hb hV hn kk
        · refine xt_tableIn (off := 154) 187 dL_law_33 (by decide) (by decide) (by decide) rfl ?_
          exact law_piece hL hb hV hn kk
        · refine xt_tableIn (off := 187) 220 dL_law_33 (by decide) (by decide) (by decide) rfl ?_
          exact law_type hL hb hV hn kk
        · refine xt_tableIn (off := 210) 243 dL_law_33 (by decide) (by decide) (by decide) rfl ?_
          exact law_plan hL hb hV hn kk
        · refine xt_tableIn (off := 223) 256 dL_law_33 (by decide) (by decide) (by decide) rfl ?_
          exact law_count hL hb hV hn kk
        · refine xt_tableIn (off := 246) 279 dL_law_33 (by decide) (by decide) (by decide) rfl ?_
          exact law_push hL hb hV hn kk
        · refine xt_tableIn (off := 299) 332 dL_law_33 (by decide) (by decide) (by decide) rfl ?_
          exact law_jump hL hb hV hn kk
        · refine xt_tableIn (off := 352) 385 dL_law_33 (by decide) (by decide) (by decide) rfl ?_
          exact law_purge hL hb hV hn kk
        · refine xt_tableIn (off := 375) 408 dL_law_33 (by decide) (by decide) (by decide) rfl ?_
          exact law_stop hL hb hV hn kk
        · refine xt_tableIn (off := 388) 421 dL_law_33 (by decide) (by decide) (by decide) rfl ?_
          exact law_hold hL hb hV hn kk
        · refine xt_tableIn (off := 401) 434 dL_law_33 (by decide) (by decide) (by decide) rfl ?_
          exact law_step hL hb hV hn kk
        · refine xt_tableIn (off := 424) 457 dL_law_33 (by decide) (by decide) (by decide) rfl ?_
          exact law_drift hL hb hV hn kk
        · refine xt_tableIn (off := 447) 480 dL_law_33 (by decide) (by decide) (by decide) rfl ?_
          exact law_undo hL hb hV hn kk
        · refine xt_tableIn (off := 460) 493 dL_law_33 (by decide) (by decide) (by decide) rfl ?_
          exact law_seed hL hb hV hn kk
        · refine xt_tableIn (off := 483) 516 dL_law_33 (by decide) (by decide) (by decide) rfl ?_
          exact law_where hL hb hV hn kk
        · refine xt_tableIn (off := 516) 549 dL_law_33 (by decide) (by decide) (by decide) rfl ?_
          exact law_pulses hL hb hV hn kk
        · refine xt_tableIn (off := 549) 582 dL_law_33 (by decide) (by decide) (by decide) rfl ?_
          exact law_next hL hb hV hn kk
        · refine xt_tableIn (off := 582) 615 dL_law_33 (by decide) (by decide) (by decide) rfl ?_
          exact law_meets hL hb hV hn kk
        · refine xt_tableIn (off := 625) 658 dL_law_33 (by decide) (by decide) (by decide) rfl ?_
          exact law_reach hL hb hV hn kk
        · refine xt_tableIn (off := 658) 691 dL_law_33 (by decide) (by decide) (by decide) rfl ?_
          exact law_off hL hb hV hn kk
        · refine xt_tableIn (off := 681) 714 dL_law_33 (by decide) (by decide) (by decide) rfl ?_
          exact law_lost hL hb hV hn kk
        · refine xt_tableIn (off := 756) 789 dL_law_33 (by decide) (by decide) (by decide) rfl ?_
          exact law_image hL hb hV hn kk
        · refine xt_tableIn (off := 769) 802 dL_law_33 (by decide) (by decide) (by decide) rfl ?_
          exact law_restore hL hb hV hn kk
        · refine xt_tableIn (off := 782) 815 dL_law_33 (by decide) (by decide) (by decide) rfl ?_
          exact law_came hL hb hV hn kk
        · refine xt_tableIn (off := 835) 868 dL_law_33 (by decide) (by decide) (by decide) rfl ?_
          exact law_film hL hb hV hn kk
        · refine xt_tableIn (off := 888) 921 dL_law_33 (by decide) (by decide) (by decide) rfl ?_
          exact law_sheet hL hb hV hn kk
        · refine xt_tableIn (off := 931) 964 dL_law_33 (by decide) (by decide) (by decide) rfl ?_
          exact law_drop hL hb hV hn kk
        · refine xt_tableIn (off := 954) 987 dL_law_33 (by decide) (by decide) (by decide) rfl ?_
          exact law_item hL hb hV hn kk
        · refine xt_tableIn (off := 1037) 1070 dL_law_33 (by decide) (by decide) (by decide) rfl ?_
          exact law_copy hL hb hV hn kk
        · refine xt_tableOut 1133 dL_law_33 (Or.inr (by rw [nI_toInt (by omega)]; omega)) rfl ?_
          refine xt_wid (c2 := 269 + (k + 1)) (s2 := 3858 + 2 * (k + 1)) (by omega) (by omega) ?_
          exact kk h n hV hn
      · have hex : nI cy.2.2.2.2.1 - 7 < nI (7 * k) := by rw [fb_lt, ei, nI_toInt (by omega)]; omega
        refine il3 dL_law_18 ?_
        refine xt_aload_nR dL_law_19 rfl rfl ?_
        refine xt_slen dL_law_20 ?_
        refine xt_bipush (7) dL_law_21 rfl ?_
        refine xt_isub dL_law_23 ?_
        refine xt_icmp_gt 1139 dL_law_24 rfl (fun _ => ?_) (fun q => absurd hex q)
        refine xt_iconst (1) dL_law_1139 rfl ?_
        exact xt_zret dL_law_1140 rfl (Or.inr rfl) (by omega) (by omega) rfl
  refine nw_L_7 dL_law_0 ⟨lb rfl, lb rfl⟩ ?_
  refine xt_dup dL_law_3 rfl ?_
  refine sN_L_9 dL_law_4 (cn_X7_init (hp_s _ _ _) rfl) ⟨lb rfl, lb rfl, lb rfl⟩ ?_
  rintro h1 ⟨hX1, h135, hs1⟩
  refine as1 dL_law_7 (by decide) rfl ?_
  refine nw_L_10 dL_law_8 ⟨lb rfl, lb rfl⟩ ?_
  refine xt_dup dL_law_11 rfl ?_
  refine sN_L_12 dL_law_12 (cn_X8_init (hp_s _ _ _) rfl) ⟨lb rfl, lb rfl, lb rfl⟩ ?_
  rintro h2 ⟨hM2, f2⟩
  have f3 : ∀ j, j < 259 → h2 j = h1 j := fun j hj => by rw [f2 j hj, hp_n _ _ (by omega)]
  have hV : INV h2 := ⟨0, 0, 0, 0, -1, W00, fun _ => 0, mn00, fun _ => 0, fun _ => 0, (hX1.fr (fun j a b => f3 j (by omega))).cb (by rw [f3 _ (by omega)]; exact h135) (fun s hs => ⟨by rw [f3 _ (by omega)]; exact (hs1 s hs).1, by rw [f3 _ (by omega)]; exact (hs1 s hs).2⟩) w00_0.1 w00_0.2.1 w00_0.2.2.1 w00_0.2.2.2.1 w00_0.2.2.2.2 _ _ _ _ mn00_n _, 0, 0, 0, 0, fun _ => 0, fun _ => 0, fun _ => 0, fun _ => 0, by rw [jn_W00]; exact hM2⟩
  refine as2 dL_law_15 (by decide) rfl ?_
  refine xt_iconst (0) dL_law_16 rfl ?_
  refine is3 dL_law_17 (by decide) rfl ?_
  exact lp cy.2.2.2.2.1 0 (by omega) (by omega) h2 269 hV (by omega)
