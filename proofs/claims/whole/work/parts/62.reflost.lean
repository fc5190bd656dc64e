set_option maxHeartbeats 400000 in
set_option maxRecDepth 100000 in
theorem cn_X8_lost_b {h : ax_H} {n : Nat} {M : Nat} {un iu td aT nu ab be : Int32} {tp mv rd ms mn la : Nat → Int32} {W : Nat → Nat → Int32} {it tk : Nat → Int64} (m : Nat) (hRI0 : RI (W 0) m) (a c x y z wh : Int32) (hx : ¬ ((0 ≤ a ∧ a ≤ 6) ∧ a ≤ sLeft (W 0) m ∧ (0 ≤ c ∧ c ≤ 10) ∧ (0 ≤ wh ∧ wh ≤ 1))) : ax_C yX8_lost cX8_lost 19 (some .int) 6 0 0 [.ref M, .int a, .int c, .int x, .int y, .int z, .int wh] (mU h M un iu td aT nu ab be (jn W) tp mv rd ms mn la it tk) n (ki ((-1000001)) (mU h M un iu td aT nu ab be (jn W) tp mv rd ms mn la it tk) n) := by
  refine ax_C.go RX8 "lost" [some (.ref M), some (.int a), some (.int c), some (.int x), some (.int y), some (.int z), some (.int wh), none, none, none, none, none, none, none, none, none, none, none, none] rfl rfl pn_X8 (lb rfl) rfl (fun l G cy bs => ?_)
  refine il1 dX8_lost_0 ?_
  refine xt_i2l dX8_lost_1 ?_
  refine xt_lconst (0) dX8_lost_2 rfl ?_
  refine k_X8_196 dX8_lost_3 ?_
  refine s_X8_51 dX8_lost_6 (cn_X8_inI _ (0) (6) rfl rfl) ⟨lb rfl, lb rfl, lb rfl, lb rfl⟩ ?_
  refine xt_if_eq 44 dX8_lost_9 rfl (fun c9 => ?_) (fun c9 => ?_)
  · refine k_X8_112 dX8_lost_44 ?_
    exact xt_iret dX8_lost_46 rfl (lb rfl) (lb rfl) ⟨rfl, rfl, rfl⟩
  · refine il1 dX8_lost_12 ?_
    refine al0 dX8_lost_13 ?_
    refine xt_iconst (0) dX8_lost_14 rfl ?_
    refine xt_heq (congrArg (fun z => (mU h M un iu td aT nu ab be (jn z) tp mv rd ms mn la it tk)) (up_id W 0).symm) ?_
    refine s_X8_116 dX8_lost_15 (cn_X8_leftOf (q := 0) (r := W 0) m (by omega) hRI0.1.1 hRI0.1.2.1) mU_0 ⟨lb rfl, lb rfl, lb rfl, lb rfl⟩ ?_
    refine xt_heq (congrArg (fun z => (mU h M un iu td aT nu ab be (jn z) tp mv rd ms mn la it tk)) (up_id W 0)) ?_
    refine xt_icmp_gt 44 dX8_lost_18 rfl (fun c18 => ?_) (fun c18 => ?_)
    · refine k_X8_112 dX8_lost_44 ?_
      exact xt_iret dX8_lost_46 rfl (lb rfl) (lb rfl) ⟨rfl, rfl, rfl⟩
    · refine il2 dX8_lost_21 ?_
      refine xt_i2l dX8_lost_22 ?_
      refine xt_lconst (0) dX8_lost_23 rfl ?_
      refine k_X8_57 dX8_lost_24 ?_
      refine s_X8_51 dX8_lost_27 (cn_X8_inI _ (0) (10) rfl rfl) ⟨lb rfl, lb rfl, lb rfl, lb rfl⟩ ?_
      refine xt_if_eq 44 dX8_lost_30 rfl (fun c30 => ?_) (fun c30 => ?_)
      · refine k_X8_112 dX8_lost_44 ?_
        exact xt_iret dX8_lost_46 rfl (lb rfl) (lb rfl) ⟨rfl, rfl, rfl⟩
      · refine il6 dX8_lost_33 ?_
        refine xt_i2l dX8_lost_35 ?_
        refine xt_lconst (0) dX8_lost_36 rfl ?_
        refine xt_lconst (1) dX8_lost_37 rfl ?_
        refine s_X8_51 dX8_lost_38 (cn_X8_inI _ (0) (1) rfl rfl) ⟨lb rfl, lb rfl, lb rfl, lb rfl⟩ ?_
        refine xt_if_ne 47 dX8_lost_41 rfl (fun q => absurd (fl0 (fun q => hx ⟨of_fl1 c9, ngt c18, of_fl1 c30, q⟩)) q) (fun _ => ?_)
        refine k_X8_112 dX8_lost_44 ?_
        exact xt_iret dX8_lost_46 rfl (lb rfl) (lb rfl) ⟨rfl, rfl, rfl⟩
set_option maxHeartbeats 400000 in
set_option maxRecDepth 100000 in
theorem cn_X8_lost {h : ax_H} {n : Nat} {M : Nat} {un iu td aT nu ab be : Int32} {tp mv rd ms mn la : Nat → Int32} {W : Nat → Nat → Int32} {it tk : Nat → Int64} (m : Nat) (hRI0 : RI (W 0) m) (N c : Nat) (hN : N ≤ 6) (hL : N ≤ LN (W 0) m) (hc : c ≤ 10) (x y z wh : Int32) (hw : 0 ≤ wh ∧ wh ≤ 1) : ax_C yX8_lost cX8_lost 19 (some .int) 6 0 0 [.ref M, .int (nI N), .int (nI c), .int x, .int y, .int z, .int wh] (mU h M un iu td aT nu ab be (jn W) tp mv rd ms mn la it tk) n (kE (lw (smN (W 0) N c x y z (2 ^ N)) (10 ^ N) wh) (MSt h M (un) (iu) (td) (W) (tp) (mn) (la) (it)) n) := by
  refine ax_C.go RX8 "lost" [some (.ref M), some (.int (nI N)), some (.int (nI c)), some (.int x), some (.int y), some (.int z), some (.int wh), none, none, none, none, none, none, none, none, none, none, none, none] rfl rfl pn_X8 (lb rfl) rfl (fun l G cy bs => ?_)
  have hm12 := hRI0.1.2.1
  have hsl : sLeft (W 0) m = nI (LN (W 0) m) := sLeft_eq hRI0
  have hLN := LN_le hRI0
  have hp2 := p2 hN
  have hp10 := p10 hN
  have lj : ∀ (r1 mv1 ms1 : Nat → Int32), (∀ p, p < 3 * N → ms1 p = mvF (W 0) p) → ∀ (d j : Nat), j + d = 2 ^ N → ∀ A B C D E F : Option Value, ax_T l G cy bs (ax_rm 6 0 0) RX8 "lost" cX8_lost 19 (some .int) (kE (lw (smN (W 0) N c x y z (2 ^ N)) (10 ^ N) wh) (MSt h M (un) (iu) (td) (W) (tp) (mn) (la) (it)) n) 0 0 137 [some (.ref M), some (.int (nI N)), some (.int (nI c)), some (.int x), some (.int y), some (.int z), some (.int wh), some (.long (lN (10 ^ N))), none, some (.long (lN (smN (W 0) N c x y z j))), none, some (.int (nI j)), A, B, C, D, none, E, F] [] (mU h M un iu td aT nu ab be (jn (va_up W 1 r1)) tp (mv1) rd (ms1) mn la it tk) n 0 0 := by
    intro r1 mv1 ms1 hms d
    induction d with
    | zero =>
      intro j hj A B C D E F
      obtain rfl : j = 2 ^ N := by omega
      have hsm := sm_le (r := W 0) (x := x) (y := y) (z := z) hc hN (2 ^ N)
      have hg : 0 < Nat.gcd (10 ^ N) (smN (W 0) N c x y z (2 ^ N)) := Nat.gcd_pos_of_pos_left _ (p10p N)
      have hg2 : Nat.gcd (10 ^ N) (smN (W 0) N c x y z (2 ^ N)) ≤ 10 ^ N := Nat.gcd_le_left _ (p10p N)
      refine il11 dX8_lost_137 ?_
      refine xt_iconst (1) dX8_lost_139 rfl ?_
      refine il1 dX8_lost_140 ?_
      refine xt_ishl dX8_lost_141 ?_
      refine xt_eqv (nI (2 ^ N)) (shl1 N (by omega)) ?_
      refine xt_icmp_ge 335 dX8_lost_142 rfl (fun _ => ?_) (fun q => absurd (nI_le (by omega) (by omega)) q)
      refine ll9 dX8_lost_335 ?_
      refine ll7 dX8_lost_337 ?_
      refine s_X8_192 dX8_lost_339 (cn_X8_common (smN (W 0) N c x y z (2 ^ N)) (10 ^ N) (by omega) (by omega)) ⟨lb rfl, lb rfl, lb rfl, lb rfl⟩ ?_
      refine ls11 dX8_lost_342 (by decide) rfl ?_
      refine il6 dX8_lost_344 ?_
      refine xt_if_ne 357 dX8_lost_346 rfl (fun c346 => ?_) (fun c346 => ?_)
      · refine ll7 dX8_lost_357 ?_
        refine ll11 dX8_lost_359 ?_
        refine xt_ldiv dX8_lost_361 (fun q => absurd ((lN_toInt (n := Nat.gcd (10 ^ N) (smN (W 0) N c x y z (2 ^ N))) (by omega)).symm.trans (congrArg Int64.toInt q)) (by show ¬ ((_ : Nat) : Int) = 0; omega)) ?_
        refine xt_eqL (lN ((10 ^ N) / Nat.gcd (10 ^ N) (smN (W 0) N c x y z (2 ^ N)))) (lN_div (by omega) (by omega)) ?_
        refine xt_l2i dX8_lost_362 ?_
        refine xt_eqv (nI ((10 ^ N) / Nat.gcd (10 ^ N) (smN (W 0) N c x y z (2 ^ N)))) (lN_i _) ?_
        exact xt_iret dX8_lost_363 rfl (lb rfl) (lb rfl) ⟨by unfold lw; rw [if_neg c346], MSt_r, rfl⟩
      · refine ll9 dX8_lost_349 ?_
        refine ll11 dX8_lost_351 ?_
        refine xt_ldiv dX8_lost_353 (fun q => absurd ((lN_toInt (n := Nat.gcd (10 ^ N) (smN (W 0) N c x y z (2 ^ N))) (by omega)).symm.trans (congrArg Int64.toInt q)) (by show ¬ ((_ : Nat) : Int) = 0; omega)) ?_
        refine xt_goto 362 dX8_lost_354 rfl ?_
        refine xt_eqL (lN ((smN (W 0) N c x y z (2 ^ N)) / Nat.gcd (10 ^ N) (smN (W 0) N c x y z (2 ^ N)))) (lN_div (by omega) (by omega)) ?_
        refine xt_l2i dX8_lost_362 ?_
        refine xt_eqv (nI ((smN (W 0) N c x y z (2 ^ N)) / Nat.gcd (10 ^ N) (smN (W 0) N c x y z (2 ^ N)))) (lN_i _) ?_
        exact xt_iret dX8_lost_363 rfl (lb rfl) (lb rfl) ⟨by unfold lw; rw [if_pos c346], MSt_r, rfl⟩
    | succ d ih =>
      intro j hj A B C D E F
      have lk : ∀ (d k : Nat), k + d = N → ∀ E : Option Value, ax_T l G cy bs (ax_rm 6 0 0) RX8 "lost" cX8_lost 19 (some .int) (kE (lw (smN (W 0) N c x y z (2 ^ N)) (10 ^ N) wh) (MSt h M (un) (iu) (td) (W) (tp) (mn) (la) (it)) n) 0 0 175 [some (.ref M), some (.int (nI N)), some (.int (nI c)), some (.int x), some (.int y), some (.int z), some (.int wh), some (.long (lN (10 ^ N))), none, some (.long (lN (smN (W 0) N c x y z j))), none, some (.int (nI j)), some (.int (enS (W 0) (nI j) 0 k)), some (.int (enS (W 0) (nI j) 1 k)), some (.int (enS (W 0) (nI j) 2 k)), some (.long (lN (wtN (nI j) c k))), none, some (.int (nI k)), E] [] (mU h M un iu td aT nu ab be (jn (va_up W 1 r1)) tp (mv1) rd (ms1) mn la it tk) n 0 0 := by
        intro d
        induction d with
        | zero =>
          intro k hk E
          obtain rfl : k = N := by omega
          refine il17 dX8_lost_175 ?_
          refine il1 dX8_lost_177 ?_
          refine xt_icmp_ge 298 dX8_lost_178 rfl (fun _ => ?_) (fun q => absurd (nI_le (by omega) (by omega)) q)
          refine ll9 dX8_lost_298 ?_
          refine il12 dX8_lost_300 ?_
          refine il3 dX8_lost_302 ?_
          refine xt_icmp_ne 325 dX8_lost_303 rfl (fun c303 => ?_) (fun c303 => ?_)
          · refine xt_lconst (0) dX8_lost_325 rfl ?_
            refine xt_ladd dX8_lost_326 ?_
            refine xt_eqL (lN (smN (W 0) k c x y z (j + 1))) (by show _ = lN (smN (W 0) k c x y z j + _); rw [if_neg (fun q => c303 q.1), Nat.add_zero]; exact Int64.add_zero _) ?_
            refine ls9 dX8_lost_327 (by decide) rfl ?_
            refine inc11 (nI (j + 1)) dX8_lost_329 (nI_1 _) (by decide) rfl ?_
            refine xt_goto 137 dX8_lost_332 rfl ?_
            exact ih (j + 1) (by omega) _ _ _ _ _ _
          · refine il13 dX8_lost_306 ?_
            refine il4 dX8_lost_308 ?_
            refine xt_icmp_ne 325 dX8_lost_310 rfl (fun c310 => ?_) (fun c310 => ?_)
            · refine xt_lconst (0) dX8_lost_325 rfl ?_
              refine xt_ladd dX8_lost_326 ?_
              refine xt_eqL (lN (smN (W 0) k c x y z (j + 1))) (by show _ = lN (smN (W 0) k c x y z j + _); rw [if_neg (fun q => c310 q.2.1), Nat.add_zero]; exact Int64.add_zero _) ?_
              refine ls9 dX8_lost_327 (by decide) rfl ?_
              refine inc11 (nI (j + 1)) dX8_lost_329 (nI_1 _) (by decide) rfl ?_
              refine xt_goto 137 dX8_lost_332 rfl ?_
              exact ih (j + 1) (by omega) _ _ _ _ _ _
            · refine il14 dX8_lost_313 ?_
              refine il5 dX8_lost_315 ?_
              refine xt_icmp_ne 325 dX8_lost_317 rfl (fun c317 => ?_) (fun c317 => ?_)
              · refine xt_lconst (0) dX8_lost_325 rfl ?_
                refine xt_ladd dX8_lost_326 ?_
                refine xt_eqL (lN (smN (W 0) k c x y z (j + 1))) (by show _ = lN (smN (W 0) k c x y z j + _); rw [if_neg (fun q => c317 q.2.2), Nat.add_zero]; exact Int64.add_zero _) ?_
                refine ls9 dX8_lost_327 (by decide) rfl ?_
                refine inc11 (nI (j + 1)) dX8_lost_329 (nI_1 _) (by decide) rfl ?_
                refine xt_goto 137 dX8_lost_332 rfl ?_
                exact ih (j + 1) (by omega) _ _ _ _ _ _
              · refine ll15 dX8_lost_320 ?_
                refine xt_goto 326 dX8_lost_322 rfl ?_
                refine xt_ladd dX8_lost_326 ?_
                refine xt_eqL (lN (smN (W 0) k c x y z (j + 1))) (by show _ = lN (smN (W 0) k c x y z j + _); rw [if_pos ⟨c303, c310, c317⟩, lN_add]) ?_
                refine ls9 dX8_lost_327 (by decide) rfl ?_
                refine inc11 (nI (j + 1)) dX8_lost_329 (nI_1 _) (by decide) rfl ?_
                refine xt_goto 137 dX8_lost_332 rfl ?_
                exact ih (j + 1) (by omega) _ _ _ _ _ _
        | succ d ih2 =>
          intro k hk E
          refine il17 dX8_lost_175 ?_
          refine il1 dX8_lost_177 ?_
          refine xt_icmp_ge 298 dX8_lost_178 rfl (fun q => absurd q (nI_ge (by omega) (by omega))) (fun _ => ?_)
          refine il11 dX8_lost_181 ?_
          refine il17 dX8_lost_183 ?_
          refine xt_ishr dX8_lost_185 ?_
          refine xt_iconst (1) dX8_lost_186 rfl ?_
          refine xt_iand dX8_lost_187 ?_
          refine xt_iconst (1) dX8_lost_188 rfl ?_
          refine xt_icmp_ne 196 dX8_lost_189 rfl (fun c189 => ?_) (fun c189 => ?_)
          · have hb : bitV (nI j) k = 0 := by rcases bit01 (nI j) k with q | q; exact q; exact absurd q c189
            refine xt_iconst (0) dX8_lost_196 rfl ?_
            refine is18 dX8_lost_197 (by decide) rfl ?_
            refine il12 dX8_lost_199 ?_
            refine il18 dX8_lost_201 ?_
            refine xt_if_eq 218 dX8_lost_203 rfl (fun _ => ?_) (fun q => absurd (by decide) q)
            refine xt_iconst (0) dX8_lost_218 rfl ?_
            refine xt_iadd dX8_lost_219 ?_
            refine xt_eqv (enS (W 0) (nI j) 0 (k + 1)) (by rw [en_0 hb]; exact Int32.add_zero _) ?_
            refine is12 dX8_lost_220 (by decide) rfl ?_
            refine il13 dX8_lost_222 ?_
            refine il18 dX8_lost_224 ?_
            refine xt_if_eq 243 dX8_lost_226 rfl (fun _ => ?_) (fun q => absurd (by decide) q)
            refine xt_iconst (0) dX8_lost_243 rfl ?_
            refine xt_iadd dX8_lost_244 ?_
            refine xt_eqv (enS (W 0) (nI j) 1 (k + 1)) (by rw [en_0 hb]; exact Int32.add_zero _) ?_
            refine is13 dX8_lost_245 (by decide) rfl ?_
            refine il14 dX8_lost_247 ?_
            refine il18 dX8_lost_249 ?_
            refine xt_if_eq 268 dX8_lost_251 rfl (fun _ => ?_) (fun q => absurd (by decide) q)
            refine xt_iconst (0) dX8_lost_268 rfl ?_
            refine xt_iadd dX8_lost_269 ?_
            refine xt_eqv (enS (W 0) (nI j) 2 (k + 1)) (by rw [en_0 hb]; exact Int32.add_zero _) ?_
            refine is14 dX8_lost_270 (by decide) rfl ?_
            refine ll15 dX8_lost_272 ?_
            refine il18 dX8_lost_274 ?_
            refine xt_if_eq 287 dX8_lost_276 rfl (fun _ => ?_) (fun q => absurd (by decide) q)
            refine il2 dX8_lost_287 ?_
            refine xt_i2l dX8_lost_288 ?_
            refine xt_lmul dX8_lost_289 ?_
            refine xt_eqL (lN (wtN (nI j) c (k + 1))) (wt_0 hc hb) ?_
            refine ls15 dX8_lost_290 (by decide) rfl ?_
            refine inc17 (nI (k + 1)) dX8_lost_292 (nI_1 _) (by decide) rfl ?_
            refine xt_goto 175 dX8_lost_295 rfl ?_
            exact ih2 (k + 1) (by omega) _
          · have hb : ¬ bitV (nI j) k = 0 := by rw [show bitV (nI j) k = 1 from c189]; decide
            refine xt_iconst (1) dX8_lost_192 rfl ?_
            refine xt_goto 197 dX8_lost_193 rfl ?_
            refine is18 dX8_lost_197 (by decide) rfl ?_
            refine il12 dX8_lost_199 ?_
            refine il18 dX8_lost_201 ?_
            refine xt_if_eq 218 dX8_lost_203 rfl (fun q => absurd q (by decide)) (fun _ => ?_)
            refine al0 dX8_lost_206 ?_
            refine g_X8_26 dX8_lost_207 mU_0 ?_
            refine xt_iconst (3) dX8_lost_210 rfl ?_
            refine il17 dX8_lost_211 ?_
            refine xt_imul dX8_lost_213 ?_
            refine xt_iald (3 * k + 0) mU_5 (by omega) ((ne_mul (a := 3) (b := k) rfl rfl).trans (congrArg nI (by omega))) (by decide) dX8_lost_214 ?_
            refine xt_eqv (mvF (W 0) (3 * k + 0)) (hms _ (by omega)) ?_
            refine xt_goto 219 dX8_lost_215 rfl ?_
            refine xt_iadd dX8_lost_219 ?_
            refine xt_eqv (enS (W 0) (nI j) 0 (k + 1)) (en_1 hb).symm ?_
            refine is12 dX8_lost_220 (by decide) rfl ?_
            refine il13 dX8_lost_222 ?_
            refine il18 dX8_lost_224 ?_
            refine xt_if_eq 243 dX8_lost_226 rfl (fun q => absurd q (by decide)) (fun _ => ?_)
            refine al0 dX8_lost_229 ?_
            refine g_X8_26 dX8_lost_230 mU_0 ?_
            refine xt_iconst (3) dX8_lost_233 rfl ?_
            refine il17 dX8_lost_234 ?_
            refine xt_imul dX8_lost_236 ?_
            refine xt_iconst (1) dX8_lost_237 rfl ?_
            refine xt_iadd dX8_lost_238 ?_
            refine xt_iald (3 * k + 1) mU_5 (by omega) ((ne_add (a := (3) * (k)) (b := 1) (ne_mul (a := 3) (b := k) rfl rfl) rfl).trans (congrArg nI (by omega))) (by decide) dX8_lost_239 ?_
            refine xt_eqv (mvF (W 0) (3 * k + 1)) (hms _ (by omega)) ?_
            refine xt_goto 244 dX8_lost_240 rfl ?_
            refine xt_iadd dX8_lost_244 ?_
            refine xt_eqv (enS (W 0) (nI j) 1 (k + 1)) (en_1 hb).symm ?_
            refine is13 dX8_lost_245 (by decide) rfl ?_
            refine il14 dX8_lost_247 ?_
            refine il18 dX8_lost_249 ?_
            refine xt_if_eq 268 dX8_lost_251 rfl (fun q => absurd q (by decide)) (fun _ => ?_)
            refine al0 dX8_lost_254 ?_
            refine g_X8_26 dX8_lost_255 mU_0 ?_
            refine xt_iconst (3) dX8_lost_258 rfl ?_
            refine il17 dX8_lost_259 ?_
            refine xt_imul dX8_lost_261 ?_
            refine xt_iconst (2) dX8_lost_262 rfl ?_
            refine xt_iadd dX8_lost_263 ?_
            refine xt_iald (3 * k + 2) mU_5 (by omega) ((ne_add (a := (3) * (k)) (b := 2) (ne_mul (a := 3) (b := k) rfl rfl) rfl).trans (congrArg nI (by omega))) (by decide) dX8_lost_264 ?_
            refine xt_eqv (mvF (W 0) (3 * k + 2)) (hms _ (by omega)) ?_
            refine xt_goto 269 dX8_lost_265 rfl ?_
            refine xt_iadd dX8_lost_269 ?_
            refine xt_eqv (enS (W 0) (nI j) 2 (k + 1)) (en_1 hb).symm ?_
            refine is14 dX8_lost_270 (by decide) rfl ?_
            refine ll15 dX8_lost_272 ?_
            refine il18 dX8_lost_274 ?_
            refine xt_if_eq 287 dX8_lost_276 rfl (fun q => absurd q (by decide)) (fun _ => ?_)
            refine xt_bipush (10) dX8_lost_279 rfl ?_
            refine il2 dX8_lost_281 ?_
            refine xt_isub dX8_lost_282 ?_
            refine xt_i2l dX8_lost_283 ?_
            refine xt_goto 289 dX8_lost_284 rfl ?_
            refine xt_lmul dX8_lost_289 ?_
            refine xt_eqL (lN (wtN (nI j) c (k + 1))) (wt_1 hc hb) ?_
            refine ls15 dX8_lost_290 (by decide) rfl ?_
            refine inc17 (nI (k + 1)) dX8_lost_292 (nI_1 _) (by decide) rfl ?_
            refine xt_goto 175 dX8_lost_295 rfl ?_
            exact ih2 (k + 1) (by omega) _
      refine il11 dX8_lost_137 ?_
      refine xt_iconst (1) dX8_lost_139 rfl ?_
      refine il1 dX8_lost_140 ?_
      refine xt_ishl dX8_lost_141 ?_
      refine xt_eqv (nI (2 ^ N)) (shl1 N (by omega)) ?_
      refine xt_icmp_ge 335 dX8_lost_142 rfl (fun q => absurd q (nI_ge (by omega) (by omega))) (fun _ => ?_)
      refine al0 dX8_lost_145 ?_
      refine g_X8_7 dX8_lost_146 mU_0 ?_
      refine xt_iconst (0) dX8_lost_149 rfl ?_
      refine xt_iald (0) mU_1 (by omega) rfl (by decide) dX8_lost_150 ?_
      refine xt_top (congrArg Value.int (jnr0 (c := 0) (by omega))) ?_
      refine is12 dX8_lost_151 (by decide) rfl ?_
      refine al0 dX8_lost_153 ?_
      refine g_X8_7 dX8_lost_154 mU_0 ?_
      refine xt_iconst (1) dX8_lost_157 rfl ?_
      refine xt_iald (1) mU_1 (by omega) rfl (by decide) dX8_lost_158 ?_
      refine xt_top (congrArg Value.int (jnr0 (c := 1) (by omega))) ?_
      refine is13 dX8_lost_159 (by decide) rfl ?_
      refine al0 dX8_lost_161 ?_
      refine g_X8_7 dX8_lost_162 mU_0 ?_
      refine xt_iconst (2) dX8_lost_165 rfl ?_
      refine xt_iald (2) mU_1 (by omega) rfl (by decide) dX8_lost_166 ?_
      refine xt_top (congrArg Value.int (jnr0 (c := 2) (by omega))) ?_
      refine is14 dX8_lost_167 (by decide) rfl ?_
      refine xt_lconst (1) dX8_lost_169 rfl ?_
      refine ls15 dX8_lost_170 (by decide) rfl ?_
      refine xt_iconst (0) dX8_lost_172 rfl ?_
      refine is17 dX8_lost_173 (by decide) rfl ?_
      exact lk N 0 (by omega) _
  have lpA : ∀ (d k : Nat), k + d = N → ∀ (A B : Option Value) (r1 mv1 ms1 : Nat → Int32) (m1 : Nat), RI r1 m1 → r1 = nxN k (W 0) → LN r1 m1 + k = LN (W 0) m → (∀ p, p < 3 * k → ms1 p = mvF (W 0) p) → ax_T l G cy bs (ax_rm 6 0 0) RX8 "lost" cX8_lost 19 (some .int) (kE (lw (smN (W 0) N c x y z (2 ^ N)) (10 ^ N) wh) (MSt h M (un) (iu) (td) (W) (tp) (mn) (la) (it)) n) 0 0 60 [some (.ref M), some (.int (nI N)), some (.int (nI c)), some (.int x), some (.int y), some (.int z), some (.int wh), some (.long (lN (10 ^ k))), none, some (.int (nI k)), A, B, none, none, none, none, none, none, none] [] (mU h M un iu td aT nu ab be (jn (va_up W 1 r1)) tp (mv1) rd (ms1) mn la it tk) n 0 0 := by
    intro d
    induction d with
    | zero =>
      intro k hk A B r1 mv1 ms1 m1 hRI hr hL hp
      obtain rfl : k = N := by omega
      refine il9 dX8_lost_60 ?_
      refine il1 dX8_lost_62 ?_
      refine xt_icmp_ge 131 dX8_lost_63 rfl (fun _ => ?_) (fun q => absurd (nI_le (by omega) (by omega)) q)
      refine xt_lconst (0) dX8_lost_131 rfl ?_
      refine ls9 dX8_lost_132 (by decide) rfl ?_
      refine xt_iconst (0) dX8_lost_134 rfl ?_
      refine is11 dX8_lost_135 (by decide) rfl ?_
      exact lj r1 mv1 ms1 hp (2 ^ k) 0 (by omega) _ _ _ _ _ _
    | succ d ih =>
      intro k hk A B r1 mv1 ms1 m1 hRI hr hL hp
      have hfl : ¬ rFlag r1 = 0 := fun z => by have := (LN_flag hRI).mp z; omega
      obtain ⟨m2, -, hRI2, hL2⟩ := RI_step hRI hfl
      refine il9 dX8_lost_60 ?_
      refine il1 dX8_lost_62 ?_
      refine xt_icmp_ge 131 dX8_lost_63 rfl (fun q => absurd q (nI_ge (by omega) (by omega))) (fun _ => ?_)
      refine al0 dX8_lost_66 ?_
      refine xt_bipush (61) dX8_lost_67 rfl ?_
      refine s_X8_175 dX8_lost_69 (cn_X8_stepsI (q := 1) (by omega) hRI) mU_0 ⟨lb rfl, lb rfl, lb rfl, lb rfl⟩ ?_
      refine is10 dX8_lost_72 (by decide) rfl ?_
      refine xt_iconst (0) dX8_lost_74 rfl ?_
      refine is11 dX8_lost_75 (by decide) rfl ?_
      refine il11 dX8_lost_77 ?_
      refine xt_iconst (3) dX8_lost_79 rfl ?_
      refine xt_icmp_ge 117 dX8_lost_80 rfl (fun q => absurd q (by decide)) (fun _ => ?_)
      refine al0 dX8_lost_83 ?_
      refine g_X8_26 dX8_lost_84 mU_0 ?_
      refine xt_iconst (3) dX8_lost_87 rfl ?_
      refine il9 dX8_lost_88 ?_
      refine xt_imul dX8_lost_90 ?_
      refine il11 dX8_lost_91 ?_
      refine xt_iadd dX8_lost_93 ?_
      refine il10 dX8_lost_94 ?_
      refine xt_if_eq 109 dX8_lost_96 rfl (fun q => absurd q hfl) (fun _ => ?_)
      refine al0 dX8_lost_99 ?_
      refine g_X8_20 dX8_lost_100 mU_0 ?_
      refine il11 dX8_lost_103 ?_
      refine xt_iald (0) mU_3 (by omega) rfl (by decide) dX8_lost_105 ?_
      refine xt_goto 110 dX8_lost_106 rfl ?_
      refine xt_iast (3 * k) mU_5 (by omega) ((ne_add (a := (3) * (k)) (b := 0) (ne_mul (a := 3) (b := k) rfl rfl) rfl).trans (congrArg nI (by omega))) (by decide) dX8_lost_110 ?_
      refine xt_heq mU_p5 ?_
      refine inc11 (1) dX8_lost_111 rfl (by decide) rfl ?_
      refine xt_goto 77 dX8_lost_114 rfl ?_
      refine il11 dX8_lost_77 ?_
      refine xt_iconst (3) dX8_lost_79 rfl ?_
      refine xt_icmp_ge 117 dX8_lost_80 rfl (fun q => absurd q (by decide)) (fun _ => ?_)
      refine al0 dX8_lost_83 ?_
      refine g_X8_26 dX8_lost_84 mU_0 ?_
      refine xt_iconst (3) dX8_lost_87 rfl ?_
      refine il9 dX8_lost_88 ?_
      refine xt_imul dX8_lost_90 ?_
      refine il11 dX8_lost_91 ?_
      refine xt_iadd dX8_lost_93 ?_
      refine il10 dX8_lost_94 ?_
      refine xt_if_eq 109 dX8_lost_96 rfl (fun q => absurd q hfl) (fun _ => ?_)
      refine al0 dX8_lost_99 ?_
      refine g_X8_20 dX8_lost_100 mU_0 ?_
      refine il11 dX8_lost_103 ?_
      refine xt_iald (1) mU_3 (by omega) rfl (by decide) dX8_lost_105 ?_
      refine xt_goto 110 dX8_lost_106 rfl ?_
      refine xt_iast (3 * k + 1) mU_5 (by omega) ((ne_add (a := (3) * (k)) (b := 1) (ne_mul (a := 3) (b := k) rfl rfl) rfl).trans (congrArg nI (by omega))) (by decide) dX8_lost_110 ?_
      refine xt_heq mU_p5 ?_
      refine inc11 (2) dX8_lost_111 rfl (by decide) rfl ?_
      refine xt_goto 77 dX8_lost_114 rfl ?_
      refine il11 dX8_lost_77 ?_
      refine xt_iconst (3) dX8_lost_79 rfl ?_
      refine xt_icmp_ge 117 dX8_lost_80 rfl (fun q => absurd q (by decide)) (fun _ => ?_)
      refine al0 dX8_lost_83 ?_
      refine g_X8_26 dX8_lost_84 mU_0 ?_
      refine xt_iconst (3) dX8_lost_87 rfl ?_
      refine il9 dX8_lost_88 ?_
      refine xt_imul dX8_lost_90 ?_
      refine il11 dX8_lost_91 ?_
      refine xt_iadd dX8_lost_93 ?_
      refine il10 dX8_lost_94 ?_
      refine xt_if_eq 109 dX8_lost_96 rfl (fun q => absurd q hfl) (fun _ => ?_)
      refine al0 dX8_lost_99 ?_
      refine g_X8_20 dX8_lost_100 mU_0 ?_
      refine il11 dX8_lost_103 ?_
      refine xt_iald (2) mU_3 (by omega) rfl (by decide) dX8_lost_105 ?_
      refine xt_goto 110 dX8_lost_106 rfl ?_
      refine xt_iast (3 * k + 2) mU_5 (by omega) ((ne_add (a := (3) * (k)) (b := 2) (ne_mul (a := 3) (b := k) rfl rfl) rfl).trans (congrArg nI (by omega))) (by decide) dX8_lost_110 ?_
      refine xt_heq mU_p5 ?_
      refine inc11 (3) dX8_lost_111 rfl (by decide) rfl ?_
      refine xt_goto 77 dX8_lost_114 rfl ?_
      refine il11 dX8_lost_77 ?_
      refine xt_iconst (3) dX8_lost_79 rfl ?_
      refine xt_icmp_ge 117 dX8_lost_80 rfl (fun _ => ?_) (fun q => absurd (by decide) q)
      refine ll7 dX8_lost_117 ?_
      refine k_X8_57 dX8_lost_119 ?_
      refine xt_lmul dX8_lost_122 ?_
      refine xt_eqL (lN (10 ^ (k + 1))) (lN_mul (10 ^ k) 10) ?_
      refine ls7 dX8_lost_123 (by decide) rfl ?_
      refine inc9 (nI (k + 1)) dX8_lost_125 (nI_1 _) (by decide) rfl ?_
      refine xt_goto 60 dX8_lost_128 rfl ?_
      exact ih (k + 1) (by omega) _ _ _ _ _ m2 hRI2 (by rw [nxN_s, hr]) (by omega) (mv3 hp (by rw [← hr]; exact mv_mo hRI (by omega)) (by rw [← hr]; exact mv_mo hRI (by omega)) (by rw [← hr]; exact mv_mo hRI (by omega)))
  refine il1 dX8_lost_0 ?_
  refine xt_i2l dX8_lost_1 ?_
  refine xt_lconst (0) dX8_lost_2 rfl ?_
  refine k_X8_196 dX8_lost_3 ?_
  refine s_X8_51 dX8_lost_6 (cn_X8_inI _ (0) (6) rfl rfl) ⟨lb rfl, lb rfl, lb rfl, lb rfl⟩ ?_
  refine xt_if_eq 44 dX8_lost_9 rfl (fun q => absurd q (fl1 ⟨nI_pos' (by omega), nI_le (b := 6) (by omega) (by decide)⟩)) (fun _ => ?_)
  refine il1 dX8_lost_12 ?_
  refine al0 dX8_lost_13 ?_
  refine xt_iconst (0) dX8_lost_14 rfl ?_
  refine xt_heq (congrArg (fun z => (mU h M un iu td aT nu ab be (jn z) tp mv rd ms mn la it tk)) (up_id W 0).symm) ?_
  refine s_X8_116 dX8_lost_15 (cn_X8_leftOf (q := 0) (r := W 0) m (by omega) hRI0.1.1 hRI0.1.2.1) mU_0 ⟨lb rfl, lb rfl, lb rfl, lb rfl⟩ ?_
  refine xt_heq (congrArg (fun z => (mU h M un iu td aT nu ab be (jn z) tp mv rd ms mn la it tk)) (up_id W 0)) ?_
  refine xt_icmp_gt 44 dX8_lost_18 rfl (fun q => absurd q (by rw [hsl]; exact nI_nlt (by omega) (by omega))) (fun _ => ?_)
  refine il2 dX8_lost_21 ?_
  refine xt_i2l dX8_lost_22 ?_
  refine xt_lconst (0) dX8_lost_23 rfl ?_
  refine k_X8_57 dX8_lost_24 ?_
  refine s_X8_51 dX8_lost_27 (cn_X8_inI _ (0) (10) rfl rfl) ⟨lb rfl, lb rfl, lb rfl, lb rfl⟩ ?_
  refine xt_if_eq 44 dX8_lost_30 rfl (fun q => absurd q (fl1 ⟨nI_pos' (by omega), nI_le (b := 10) (by omega) (by decide)⟩)) (fun _ => ?_)
  refine il6 dX8_lost_33 ?_
  refine xt_i2l dX8_lost_35 ?_
  refine xt_lconst (0) dX8_lost_36 rfl ?_
  refine xt_lconst (1) dX8_lost_37 rfl ?_
  refine s_X8_51 dX8_lost_38 (cn_X8_inI _ (0) (1) rfl rfl) ⟨lb rfl, lb rfl, lb rfl, lb rfl⟩ ?_
  refine xt_if_ne 47 dX8_lost_41 rfl (fun _ => ?_) (fun q => absurd q (fl1 hw))
  refine al0 dX8_lost_47 ?_
  refine xt_iconst (0) dX8_lost_48 rfl ?_
  refine xt_bipush (61) dX8_lost_49 rfl ?_
  refine s_X8_45 dX8_lost_51 (cn_X8_copyRow 0 1 (by omega) (by omega) (by omega)) mU_0 ⟨lb rfl, lb rfl, lb rfl, lb rfl⟩ ?_
  refine xt_lconst (1) dX8_lost_54 rfl ?_
  refine ls7 dX8_lost_55 (by decide) rfl ?_
  refine xt_iconst (0) dX8_lost_57 rfl ?_
  refine is9 dX8_lost_58 (by decide) rfl ?_
  exact lpA N 0 (by omega) _ _ _ _ _ m hRI0 rfl (by rw [Nat.add_zero]) (fun p hp => absurd hp (by omega))
