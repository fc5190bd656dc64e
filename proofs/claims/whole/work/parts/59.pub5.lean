theorem CB.sw {h h2 : ax_H} {r : Nat → Int32} {m : Nat} {R : Nat → Nat → Int32} {u : Nat} {im iu : Int32} {Wi : Nat → Nat → Int32} {t : Nat} {tp mn la : Nat → Int32} {it : Nat → Int64} {r2 : Nat → Int32} {m2 : Nat} (hI : CB h r m R u im iu Wi t tp mn la it) (x1 : SR h2 1 r2 m2) (x2 : WX h2 115 1) (he : ∀ j, (j < 1 ∨ 1 + 16 ≤ j) → (j < 115 ∨ 115 + 4 ≤ j) → h2 j = h j) : CB h2 (r2) (m2) R u im iu Wi t tp mn la it := by
  obtain ⟨a1, a2, a3, a4, a5, ⟨g, a6⟩, a7, a8⟩ := hI
  exact ⟨by rw [he _ (by omega) (by omega)]; exact a1, x1, a3.fr (fun j _ b => he j (by omega) (by omega)), x2, a5.fr (fun j _ b => he j (by omega) (by omega)), ⟨g, by rw [he _ (by omega) (by omega)]; exact a6⟩, a7.fr (fun j _ b => he j (by omega) (by omega)), a8.fr (fun j b => he j (by omega) (by omega))⟩
theorem CB.Rc {h : ax_H} {r : Nat → Int32} {m : Nat} {R : Nat → Nat → Int32} {u : Nat} {im iu : Int32} {Wi : Nat → Nat → Int32} {t : Nat} {tp mn la : Nat → Int32} {it : Nat → Int64} {R2 : Nat → Nat → Int32} (hI : CB h r m R u im iu Wi t tp mn la it) (hR : ∀ i, i < u → R2 i = R i) : CB h r m (R2) u im iu Wi t tp mn la it := by
  obtain ⟨a1, a2, a3, a4, a5, a6, a7, a8⟩ := hI
  exact ⟨a1, a2, PA_congr hR a3, a4, a5, a6, a7, a8⟩
theorem kp_md {W : Nat → Nat → Int32} {u : Nat} (hu : u ≤ 6) : ∀ i, i < mdU u → mdW W u (2 + i) = kpR (fun i => W (2 + i)) u (W 0) i := by
  intro i hi
  unfold mdU at hi
  unfold mdW kpR
  by_cases h : u = 6
  · rw [if_pos h] at hi
    rw [if_pos h, if_pos h, va_up, va_up]
    by_cases e : i = 5
    · rw [if_pos (by omega), if_pos e]
    · rw [if_neg (by omega), if_neg e, shW, if_pos (by omega)]
      show W (2 + i + 1) = W (2 + (i + 1))
      rfl
  · rw [if_neg h] at hi
    rw [if_neg h, if_neg h, va_up, va_up]
    by_cases e : i = u
    · rw [if_pos (by omega), if_pos e]
    · rw [if_neg (by omega), if_neg e]
theorem CB.up {h : ax_H} {m : Nat} {u : Nat} {im iu : Int32} {Wi : Nat → Nat → Int32} {t : Nat} {tp mn la : Nat → Int32} {it : Nat → Int64} {W : Nat → Nat → Int32} {v : Nat → Int32} (hI : CB h (v) m (fun i => W (2 + i)) u im iu Wi t tp mn la it) : CB h (va_up W 0 v 0) m (fun i => va_up W 0 v (2 + i)) u im iu Wi t tp mn la it := by
  have e : (fun i => va_up W 0 v (2 + i)) = fun i => W (2 + i) := by
    funext i; rw [va_up, if_neg (by omega)]
  rw [e, va_up, if_pos rfl]
  exact hI
theorem dr_shr (r : Nat → Int32) : dwS r >>> ((16 : Int32) &&& 31) = drX r := by
  obtain ⟨j, hj, e⟩ := dw_nat r
  unfold drX
  rw [e, show (65536 : Int32) = nI 65536 from rfl, pk_div (by omega) (by omega) (by omega)]
  exact pk_shrN (by omega) ((16 : Int32) &&& 31) 16 (by decide)
set_option maxHeartbeats 400000 in
set_option maxRecDepth 100000 in
theorem cr_X7_doSteps {h : ax_H} {n : Nat} {r : Nat → Int32} {m : Nat} {R : Nat → Nat → Int32} {u : Nat} {im iu : Int32} {Wi : Nat → Nat → Int32} {t : Nat} {tp mn la : Nat → Int32} {it : Nat → Int64} (hI : CB h r m R u im iu Wi t tp mn la it) (N : Nat) (hN : N ≤ 200) : ax_C yX7_doSteps cX7_doSteps 3 (some .int) 5 0 0 [.ref 0, .int (nI N)] h n (kE (nI (min N (LN r m))) (fun h2 => ∃ m2, CB h2 (nxN N r) (m2) R u im iu Wi t tp mn la it ∧ FM n h h2) n) := by
  refine ax_C.go RX7 "doSteps" [some (.ref 0), some (.int (nI N)), none] rfl rfl pn_X7 (lb rfl) rfl (fun l G cy bs => ?_)
  obtain ⟨a0, hS, hA, hW, hRd, hG, hM, hH⟩ := (id hI : CB h _ _ _ _ _ _ _ _ _ _ _ _)
  obtain ⟨sp, pi, pp, nw, bz, hd, dw, k1, hP, ⟨s1, s2, s3, s4, s5, s6⟩, k4⟩ := (id hS : SR h 1 _ _)
  obtain ⟨⟨fs1, o1⟩, o17, ⟨fs6, o115⟩, hu6, hm12⟩ := CB.o hI
  have hbz := s5.b
  have him := hM.b
  have lp : ∀ (d k : Nat), k + d = N → ∀ (h1 : ax_H) (r1 : Nat → Int32) (t1 : Nat) (f1 g1 : Nat → Int32), fr 115 4 h h1 → WR h1 115 1 r m r1 t1 f1 g1 → nxN d r1 = nxN N r → k + min d (LN r1 (m - t1)) = min N (LN r m) → ax_T l G cy bs (ax_rm 5 0 0) RX7 "doSteps" cX7_doSteps 3 (some .int) (kE (nI (min N (LN r m))) (fun h2 => ∃ m2, CB h2 (nxN N r) (m2) R u im iu Wi t tp mn la it ∧ FM n h h2) n) 0 0 9 [some (.ref 0), some (.int (nI N)), some (.int (nI k))] [] h1 n 0 0 := by
    intro d
    induction d with
    | zero =>
      intro k hk h1 r1 t1 f1 g1 hF1 w1 hr hL
      obtain ⟨q1, bz1, wf1, ws1, wj1, wb1, wr1⟩ := (id w1 : WR h1 115 1 _ _ _ _ _ _)
      have a01 : h1 0 = some (eX7 im) := by rw [hF1 _ (by omega)]; exact a0
      have hr : r1 = nxN N r := hr
      refine il2 dX7_doSteps_9 ?_
      refine il1 dX7_doSteps_10 ?_
      refine xt_icmp_ge 30 dX7_doSteps_11 rfl (fun _ => ?_) (fun q => absurd (nI_le (by omega) (by omega)) q)
      refine al0 dX7_doSteps_30 ?_
      refine g_X7_28 dX7_doSteps_31 a01 ?_
      refine sP_X7_285 dX7_doSteps_34 (cr_X6_settle w1 (by omega)) wf1.1 ⟨lb rfl, lb rfl, lb rfl, lb rfl⟩ ?_
      rintro h5 ⟨x1, x2, x3⟩
      have hI5 := hI.sw x1 x2 (fun j a b => (x3 j a b).trans (hF1 j b))
      refine il2 dX7_doSteps_37 ?_
      exact xt_iret dX7_doSteps_38 rfl (lb rfl) (lb rfl) ⟨by rw [← hL, Nat.zero_min, Nat.add_zero], ⟨m - t1, by rw [← hr]; exact hI5, fun j a b => (x3 j (by omega) (by omega)).trans (hF1 j (by omega))⟩, rfl⟩
    | succ d ih =>
      intro k hk h1 r1 t1 f1 g1 hF1 w1 hr hL
      obtain ⟨q1, bz1, wf1, ws1, wj1, wb1, wr1⟩ := (id w1 : WR h1 115 1 _ _ _ _ _ _)
      have a01 : h1 0 = some (eX7 im) := by rw [hF1 _ (by omega)]; exact a0
      refine il2 dX7_doSteps_9 ?_
      refine il1 dX7_doSteps_10 ?_
      refine xt_icmp_ge 30 dX7_doSteps_11 rfl (fun q => absurd q (nI_ge (by omega) (by omega))) (fun _ => ?_)
      refine al0 dX7_doSteps_14 ?_
      refine g_X7_28 dX7_doSteps_15 a01 ?_
      refine sP_X7_184 dX7_doSteps_18 (cr_X6_advance w1 (by omega)) wf1.1 ⟨lb rfl, lb rfl, lb rfl, lb rfl⟩ ?_
      rintro h2 ⟨⟨t2, f2, g2, w2, gm2⟩, hf2⟩
      have hF2 : fr 115 4 h h2 := fun j hj => (hf2 j hj).trans (hF1 j hj)
      obtain ⟨q2, bz2, wf2, ws2, wj2, wb2, wr2⟩ := (id w2 : WR h2 115 1 _ _ _ _ _ _)
      have a02 : h2 0 = some (eX7 im) := by rw [hF2 _ (by omega)]; exact a0
      refine xt_if_eq 30 dX7_doSteps_21 rfl (fun c21 => ?_) (fun c21 => ?_)
      · have hz := (LN_flag wr1.2.1).mp c21
        rw [nxN_fix (nx_0 c21).1] at hr
        rw [(nx_0 c21).1] at w2
        refine al0 dX7_doSteps_30 ?_
        refine g_X7_28 dX7_doSteps_31 a02 ?_
        refine sP_X7_285 dX7_doSteps_34 (cr_X6_settle w2 (by omega)) wf2.1 ⟨lb rfl, lb rfl, lb rfl, lb rfl⟩ ?_
        rintro h5 ⟨x1, x2, x3⟩
        have hI5 := hI.sw x1 x2 (fun j a b => (x3 j a b).trans (hF2 j b))
        refine il2 dX7_doSteps_37 ?_
        exact xt_iret dX7_doSteps_38 rfl (lb rfl) (lb rfl) ⟨by rw [← hL, hz, Nat.min_zero, Nat.add_zero], ⟨m - t2, by rw [← hr]; exact hI5, fun j a b => (x3 j (by omega) (by omega)).trans (hF2 j (by omega))⟩, rfl⟩
      · refine inc2 (nI (k + 1)) dX7_doSteps_24 (nI_1 _) (by decide) rfl ?_
        refine xt_goto 9 dX7_doSteps_27 rfl ?_
        exact ih (k + 1) (by omega) h2 (nx r1) t2 f2 g2 hF2 w2 hr (by
          obtain ⟨L, hL0⟩ := Nat.exists_eq_succ_of_ne_zero (fun z => c21 ((LN_flag wr1.2.1).mpr z))
          have hL0 : LN r1 (m - t1) = L + 1 := hL0
          rw [LN_nx wr1.2.1 c21 wr2.2.1 hL0]; omega)
  refine xt_iconst (0) dX7_doSteps_0 rfl ?_
  refine is2 dX7_doSteps_1 (by decide) rfl ?_
  refine al0 dX7_doSteps_2 ?_
  refine g_X7_28 dX7_doSteps_3 a0 ?_
  refine sP_X7_175 dX7_doSteps_6 (cr_X6_begin hW hS (by omega)) o115 ⟨lb rfl, lb rfl, lb rfl, lb rfl⟩ ?_
  rintro h1 ⟨⟨f1, g1, w1⟩, hF1⟩
  obtain ⟨q1, bz1, wf1, ws1, wj1, wb1, wr1⟩ := (id w1 : WR h1 115 1 _ _ _ _ _ _)
  have a01 : h1 0 = some (eX7 im) := by rw [hF1 _ (by omega)]; exact a0
  exact lp N 0 (by omega) h1 r 0 f1 g1 hF1 w1 rfl (by rw [Nat.sub_zero, Nat.zero_add])
set_option maxHeartbeats 400000 in
set_option maxRecDepth 100000 in
theorem cr_X7_step_b {h : ax_H} {n : Nat} {r : Nat → Int32} {m : Nat} {R : Nat → Nat → Int32} {u : Nat} {im iu : Int32} {Wi : Nat → Nat → Int32} {t : Nat} {tp mn la : Nat → Int32} {it : Nat → Int64} (hI : CB h r m R u im iu Wi t tp mn la it) (x : Int32) (hx : ¬ (1 ≤ x ∧ x ≤ 200)) : ax_C yX7_step cX7_step 2 (some .int) 6 0 0 [.ref 0, .int x] h n (kE ((-1000001)) (fun h2 => CB h2 r m R u im iu Wi t tp mn la it ∧ FM n h h2) n) := by
  refine ax_C.go RX7 "step" [some (.ref 0), some (.int x)] rfl rfl pn_X7 (lb rfl) rfl (fun l G cy bs => ?_)
  obtain ⟨a0, hS, hA, hW, hRd, hG, hM, hH⟩ := (id hI : CB h _ _ _ _ _ _ _ _ _ _ _ _)
  obtain ⟨sp, pi, pp, nw, bz, hd, dw, k1, hP, ⟨s1, s2, s3, s4, s5, s6⟩, k4⟩ := (id hS : SR h 1 _ _)
  obtain ⟨⟨fs1, o1⟩, o17, ⟨fs6, o115⟩, hu6, hm12⟩ := CB.o hI
  have hbz := s5.b
  have him := hM.b
  refine il1 dX7_step_0 ?_
  refine xt_iconst (1) dX7_step_1 rfl ?_
  refine xt_icmp_lt 12 dX7_step_2 rfl (fun c2 => ?_) (fun c2 => ?_)
  · refine k_X7_64 dX7_step_12 ?_
    exact xt_iret dX7_step_14 rfl (lb rfl) (lb rfl) ⟨rfl, ⟨hI, FM_rf⟩, rfl⟩
  · refine il1 dX7_step_5 ?_
    refine xt_sipush (200) dX7_step_6 rfl ?_
    refine xt_icmp_le 15 dX7_step_9 rfl (fun q => absurd q (fun z => hx ⟨Classical.byContradiction (fun y => c2 (by rw [fb_lt]; rw [fb_le] at y; omega)), z⟩)) (fun _ => ?_)
    refine k_X7_64 dX7_step_12 ?_
    exact xt_iret dX7_step_14 rfl (lb rfl) (lb rfl) ⟨rfl, ⟨hI, FM_rf⟩, rfl⟩
set_option maxHeartbeats 400000 in
set_option maxRecDepth 100000 in
theorem cr_X7_step_n {h : ax_H} {n : Nat} {r : Nat → Int32} {m : Nat} {R : Nat → Nat → Int32} {u : Nat} {im iu : Int32} {Wi : Nat → Nat → Int32} {t : Nat} {tp mn la : Nat → Int32} {it : Nat → Int64} (hI : CB h r m R u im iu Wi t tp mn la it) (x : Int32) (hx : 1 ≤ x ∧ x ≤ 200) (hh : r 3 = 1) : ax_C yX7_step cX7_step 2 (some .int) 6 0 0 [.ref 0, .int x] h n (kE ((-1000002)) (fun h2 => CB h2 r m R u im iu Wi t tp mn la it ∧ FM n h h2) n) := by
  refine ax_C.go RX7 "step" [some (.ref 0), some (.int x)] rfl rfl pn_X7 (lb rfl) rfl (fun l G cy bs => ?_)
  obtain ⟨a0, hS, hA, hW, hRd, hG, hM, hH⟩ := (id hI : CB h _ _ _ _ _ _ _ _ _ _ _ _)
  obtain ⟨sp, pi, pp, nw, bz, hd, dw, k1, hP, ⟨s1, s2, s3, s4, s5, s6⟩, k4⟩ := (id hS : SR h 1 _ _)
  obtain ⟨⟨fs1, o1⟩, o17, ⟨fs6, o115⟩, hu6, hm12⟩ := CB.o hI
  have hbz := s5.b
  have him := hM.b
  refine il1 dX7_step_0 ?_
  refine xt_iconst (1) dX7_step_1 rfl ?_
  refine xt_icmp_lt 12 dX7_step_2 rfl (fun q => absurd q (fun z => by have := hx.1; rw [fb_lt] at z; rw [fb_le] at this; omega)) (fun _ => ?_)
  refine il1 dX7_step_5 ?_
  refine xt_sipush (200) dX7_step_6 rfl ?_
  refine xt_icmp_le 15 dX7_step_9 rfl (fun _ => ?_) (fun q => absurd hx.2 q)
  refine al0 dX7_step_15 ?_
  refine g_X7_12 dX7_step_16 a0 ?_
  refine g_X7_134 dX7_step_19 k1.1 ?_
  refine xt_if_eq 28 dX7_step_22 rfl (fun q => absurd q (by rw [s2, hh]; decide)) (fun _ => ?_)
  refine k_X7_157 dX7_step_25 ?_
  exact xt_iret dX7_step_27 rfl (lb rfl) (lb rfl) ⟨rfl, ⟨hI, FM_rf⟩, rfl⟩
set_option maxHeartbeats 400000 in
set_option maxRecDepth 100000 in
theorem cr_X7_step {h : ax_H} {n : Nat} {r : Nat → Int32} {m : Nat} {R : Nat → Nat → Int32} {u : Nat} {im iu : Int32} {Wi : Nat → Nat → Int32} {t : Nat} {tp mn la : Nat → Int32} {it : Nat → Int64} (hI : CB h r m R u im iu Wi t tp mn la it) (N : Nat) (hN : 1 ≤ N ∧ N ≤ 200) (hh : ¬ r 3 = 1) : ax_C yX7_step cX7_step 2 (some .int) 6 0 0 [.ref 0, .int (nI N)] h n (kE (nI (min N (LN r m))) (fun h2 => ∃ m2, CB h2 (nxN N r) (m2) (kpR R u r) (mdU u) im iu Wi t tp mn la it ∧ FM n h h2) n) := by
  refine ax_C.go RX7 "step" [some (.ref 0), some (.int (nI N))] rfl rfl pn_X7 (lb rfl) rfl (fun l G cy bs => ?_)
  obtain ⟨a0, hS, hA, hW, hRd, hG, hM, hH⟩ := (id hI : CB h _ _ _ _ _ _ _ _ _ _ _ _)
  obtain ⟨sp, pi, pp, nw, bz, hd, dw, k1, hP, ⟨s1, s2, s3, s4, s5, s6⟩, k4⟩ := (id hS : SR h 1 _ _)
  obtain ⟨⟨fs1, o1⟩, o17, ⟨fs6, o115⟩, hu6, hm12⟩ := CB.o hI
  have hbz := s5.b
  have him := hM.b
  refine il1 dX7_step_0 ?_
  refine xt_iconst (1) dX7_step_1 rfl ?_
  refine xt_icmp_lt 12 dX7_step_2 rfl (fun q => absurd q (nI_nlt (b := 1) (by omega) (by omega))) (fun _ => ?_)
  refine il1 dX7_step_5 ?_
  refine xt_sipush (200) dX7_step_6 rfl ?_
  refine xt_icmp_le 15 dX7_step_9 rfl (fun _ => ?_) (fun q => absurd (nI_le (b := 200) (by omega) (by decide)) q)
  refine al0 dX7_step_15 ?_
  refine g_X7_12 dX7_step_16 a0 ?_
  refine g_X7_134 dX7_step_19 k1.1 ?_
  refine xt_if_eq 28 dX7_step_22 rfl (fun _ => ?_) (fun q => absurd (by rcases s6 with z | z; exact z; exact absurd (by rw [← s2]; exact z) hh) q)
  refine al0 dX7_step_28 ?_
  refine g_X7_19 dX7_step_29 a0 ?_
  refine al0 dX7_step_32 ?_
  refine g_X7_12 dX7_step_33 a0 ?_
  refine sP_X7_148 dX7_step_36 (cr_X1_keep hI.2.2.1 hI.2.1 (by omega)) o17 ⟨lb rfl, lb rfl, lb rfl, lb rfl⟩ ?_
  rintro h2 ⟨x12, x22⟩
  have hI2 := hI.pa x12 x22
  obtain ⟨a02, hS2, hA2, hW2, hRd2, hG2, hM2, hH2⟩ := (id hI2 : CB h2 _ _ _ _ _ _ _ _ _ _ _ _)
  obtain ⟨sp2, pi2, pp2, nw2, bz2, hd2, dw2, k12, hP2, ⟨s12, s22, s32, s42, s52, s62⟩, k42⟩ := (id hS2 : SR h2 1 _ _)
  obtain ⟨⟨fs12, o12⟩, o172, ⟨fs62, o1152⟩, hu62, hm122⟩ := CB.o hI2
  have hbz2 := s52.b
  have him2 := hM2.b
  refine al0 dX7_step_39 ?_
  refine il1 dX7_step_40 ?_
  refine sP_X7_163 dX7_step_41 (cr_X7_doSteps hI2 N (by omega)) a02 ⟨lb rfl, lb rfl, lb rfl, lb rfl⟩ ?_
  rintro h3 ⟨m3, hm3, x3⟩
  exact xt_iret dX7_step_44 rfl (lb rfl) (lb rfl) ⟨rfl, ⟨m3, hm3, FM_tr (FM_fr (by omega) x22) x3⟩, rfl⟩
set_option maxHeartbeats 400000 in
set_option maxRecDepth 100000 in
theorem cr_X7_driftOnce {h : ax_H} {n : Nat} {r : Nat → Int32} {m : Nat} {R : Nat → Nat → Int32} {u : Nat} {im iu : Int32} {Wi : Nat → Nat → Int32} {t : Nat} {tp mn la : Nat → Int32} {it : Nat → Int64} (hI : CB h r m R u im iu Wi t tp mn la it) : ax_C yX7_driftOnce cX7_driftOnce 2 none 6 0 0 [.ref 0] h n (kP (fun h2 => ∃ m2, CB h2 (drR r) (m2) R u im iu Wi t tp mn la it ∧ FM n h h2) n) := by
  refine ax_C.go RX7 "driftOnce" [some (.ref 0), none] rfl rfl pn_X7 (lb rfl) rfl (fun l G cy bs => ?_)
  obtain ⟨a0, hS, hA, hW, hRd, hG, hM, hH⟩ := (id hI : CB h _ _ _ _ _ _ _ _ _ _ _ _)
  obtain ⟨sp, pi, pp, nw, bz, hd, dw, k1, hP, ⟨s1, s2, s3, s4, s5, s6⟩, k4⟩ := (id hS : SR h 1 _ _)
  obtain ⟨⟨fs1, o1⟩, o17, ⟨fs6, o115⟩, hu6, hm12⟩ := CB.o hI
  have hbz := s5.b
  have him := hM.b
  have go : ∀ h1 : ax_H, CB h1 (drA r) m R u im iu Wi t tp mn la it → FM n h h1 → ax_T l G cy bs (ax_rm 6 0 0) RX7 "driftOnce" cX7_driftOnce 2 none (kP (fun h2 => ∃ m2, CB h2 (drR r) (m2) R u im iu Wi t tp mn la it ∧ FM n h h2) n) 0 0 26 [some (.ref 0), none] [] h1 n 0 0 := by
    intro h1 hI1 hF1
    obtain ⟨a01, hS1, hA1, hW1, hRd1, hG1, hM1, hH1⟩ := (id hI1 : CB h1 _ _ _ _ _ _ _ _ _ _ _ _)
    obtain ⟨sp1, pi1, pp1, nw1, bz1, hd1, dw1, k11, hP1, ⟨s11, s21, s31, s41, s51, s61⟩, k41⟩ := (id hS1 : SR h1 1 _ _)
    obtain ⟨⟨fs11, o11⟩, o171, ⟨fs61, o1151⟩, hu61, hm121⟩ := CB.o hI1
    have hbz1 := s51.b
    have him1 := hM1.b
    have h4 : dw1 = dwS r := by rw [s31, drA, upd, if_pos rfl]
    have hmo : mOf r = m := mOf_eq k4.1.1 (by omega)
    refine al0 dX7_driftOnce_26 ?_
    refine g_X7_12 dX7_driftOnce_27 a01 ?_
    refine g_X7_172 dX7_driftOnce_30 k11.1 ?_
    refine xt_bipush (16) dX7_driftOnce_33 rfl ?_
    refine xt_ishr dX7_driftOnce_35 ?_
    refine xt_eqv (drX r) (by rw [h4]; exact dr_shr r) ?_
    refine is1 dX7_driftOnce_36 (by decide) rfl ?_
    refine il1 dX7_driftOnce_37 ?_
    refine xt_iconst (3) dX7_driftOnce_38 rfl ?_
    refine xt_irem dX7_driftOnce_39 (by decide) ?_
    refine xt_if_eq 52 dX7_driftOnce_40 rfl (fun c40 => ?_) (fun c40 => ?_)
    · refine al0 dX7_driftOnce_52 ?_
      refine g_X7_12 dX7_driftOnce_53 a01 ?_
      refine g_X7_68 dX7_driftOnce_56 k11.1 ?_
      refine xt_bipush (12) dX7_driftOnce_59 rfl ?_
      refine xt_icmp_ge 96 dX7_driftOnce_61 rfl (fun c61 => ?_) (fun c61 => ?_)
      · exact xt_ret dX7_driftOnce_96 rfl (lb rfl) (lb rfl) ⟨rfl, ⟨m, by unfold drR; rw [if_pos c40, if_pos (by rw [k4.1.1]; exact c61)]; exact hI1, hF1⟩, rfl⟩
      · have hm0 : m < 12 := by
          rcases Nat.lt_or_ge m 12 with q | q
          · exact q
          · exact absurd (nI_le (a := 12) q (by omega)) c61
        refine al0 dX7_driftOnce_64 ?_
        refine g_X7_12 dX7_driftOnce_65 a01 ?_
        refine il1 dX7_driftOnce_68 ?_
        refine xt_iconst (3) dX7_driftOnce_69 rfl ?_
        refine xt_idiv dX7_driftOnce_70 (by decide) ?_
        refine xt_iconst (3) dX7_driftOnce_71 rfl ?_
        refine xt_irem dX7_driftOnce_72 (by decide) ?_
        refine il1 dX7_driftOnce_73 ?_
        refine xt_bipush (16) dX7_driftOnce_74 rfl ?_
        refine xt_idiv dX7_driftOnce_76 (by decide) ?_
        refine xt_bipush (9) dX7_driftOnce_77 rfl ?_
        refine xt_irem dX7_driftOnce_79 (by decide) ?_
        refine xt_iconst (4) dX7_driftOnce_80 rfl ?_
        refine xt_isub dX7_driftOnce_81 ?_
        refine il1 dX7_driftOnce_82 ?_
        refine xt_sipush (256) dX7_driftOnce_83 rfl ?_
        refine xt_idiv dX7_driftOnce_86 (by decide) ?_
        refine xt_bipush (9) dX7_driftOnce_87 rfl ?_
        refine xt_irem dX7_driftOnce_89 (by decide) ?_
        refine xt_iconst (4) dX7_driftOnce_90 rfl ?_
        refine xt_isub dX7_driftOnce_91 ?_
        refine xt_iconst (1) dX7_driftOnce_92 rfl ?_
        refine sP_X7_127 dX7_driftOnce_93 (cr_X5_addLast hI1.2.1 hm0 (dr_ok r)) o11 ⟨lb rfl, lb rfl, lb rfl, lb rfl⟩ ?_
        rintro h3 ⟨x3, x4⟩
        have hI3 := hI1.st x3 x4
        exact xt_ret dX7_driftOnce_96 rfl (lb rfl) (lb rfl) ⟨rfl, ⟨m + 1, by unfold drR; rw [if_pos c40, if_neg (by rw [k4.1.1]; exact c61), hmo]; exact hI3, FM_tr hF1 (FM_fr (by omega) x4)⟩, rfl⟩
    · refine al0 dX7_driftOnce_43 ?_
      refine xt_iconst (1) dX7_driftOnce_44 rfl ?_
      refine sP_X7_163 dX7_driftOnce_45 (cr_X7_doSteps hI1 1 (by omega)) a01 ⟨lb rfl, lb rfl, lb rfl, lb rfl⟩ ?_
      rintro h3 ⟨m3, hm3, x3⟩
      refine xt_pop dX7_driftOnce_48 rfl ?_
      refine xt_goto 96 dX7_driftOnce_49 rfl ?_
      exact xt_ret dX7_driftOnce_96 rfl (lb rfl) (lb rfl) ⟨rfl, ⟨m3, by unfold drR; rw [if_neg c40]; exact hm3, FM_tr hF1 x3⟩, rfl⟩
  obtain rfl : dw = r 4 := s3
  refine al0 dX7_driftOnce_0 ?_
  refine g_X7_12 dX7_driftOnce_1 a0 ?_
  refine al0 dX7_driftOnce_4 ?_
  refine g_X7_12 dX7_driftOnce_5 a0 ?_
  refine g_X7_172 dX7_driftOnce_8 k1.1 ?_
  refine kw_X7_288 dX7_driftOnce_11 ?_
  refine xt_imul dX7_driftOnce_14 ?_
  refine xt_sipush (12345) dX7_driftOnce_15 rfl ?_
  refine xt_iadd dX7_driftOnce_18 ?_
  refine kw_X7_289 dX7_driftOnce_19 ?_
  refine xt_iand dX7_driftOnce_22 ?_
  refine p_X7_172 dX7_driftOnce_23 k1.1 ?_
  refine go (hp h 1 (eSt 1 (nI m) bz hd (dwS r))) (hI.st ⟨sp, pi, pp, nw, bz, hd, dwS r, (SF_put k1 _ _ _ _).1, hP, ⟨fun j hj => by rw [drA, upd, if_neg (by omega)]; exact s1 j hj, by rw [drA, upd, if_neg (by omega)]; exact s2, by rw [drA, upd, if_pos rfl], fun k hk j hj => by rw [drA, tlR_upd (by omega)]; exact s4 k hk j hj, NB_congr (fun _ _ => rfl) (fun j a b => by rw [drA, upd, if_neg (by omega)]) s5, s6⟩, RI_col (by omega) k4⟩ (SF_put k1 _ _ _ _).2) (FM_fr (by omega) (SF_put k1 _ _ _ _).2)
set_option maxHeartbeats 400000 in
set_option maxRecDepth 100000 in
theorem cr_X7_drift_b {h : ax_H} {n : Nat} {r : Nat → Int32} {m : Nat} {R : Nat → Nat → Int32} {u : Nat} {im iu : Int32} {Wi : Nat → Nat → Int32} {t : Nat} {tp mn la : Nat → Int32} {it : Nat → Int64} (hI : CB h r m R u im iu Wi t tp mn la it) (x : Int32) (hx : ¬ (1 ≤ x ∧ x ≤ 40)) : ax_C yX7_drift cX7_drift 3 (some .int) 7 0 0 [.ref 0, .int x] h n (kE ((-1000001)) (fun h2 => CB h2 r m R u im iu Wi t tp mn la it ∧ FM n h h2) n) := by
  refine ax_C.go RX7 "drift" [some (.ref 0), some (.int x), none] rfl rfl pn_X7 (lb rfl) rfl (fun l G cy bs => ?_)
  obtain ⟨a0, hS, hA, hW, hRd, hG, hM, hH⟩ := (id hI : CB h _ _ _ _ _ _ _ _ _ _ _ _)
  obtain ⟨sp, pi, pp, nw, bz, hd, dw, k1, hP, ⟨s1, s2, s3, s4, s5, s6⟩, k4⟩ := (id hS : SR h 1 _ _)
  obtain ⟨⟨fs1, o1⟩, o17, ⟨fs6, o115⟩, hu6, hm12⟩ := CB.o hI
  have hbz := s5.b
  have him := hM.b
  refine il1 dX7_drift_0 ?_
  refine xt_iconst (1) dX7_drift_1 rfl ?_
  refine xt_icmp_lt 11 dX7_drift_2 rfl (fun c2 => ?_) (fun c2 => ?_)
  · refine k_X7_64 dX7_drift_11 ?_
    exact xt_iret dX7_drift_13 rfl (lb rfl) (lb rfl) ⟨rfl, ⟨hI, FM_rf⟩, rfl⟩
  · refine il1 dX7_drift_5 ?_
    refine xt_bipush (40) dX7_drift_6 rfl ?_
    refine xt_icmp_le 14 dX7_drift_8 rfl (fun q => absurd q (fun z => hx ⟨Classical.byContradiction (fun y => c2 (by rw [fb_lt]; rw [fb_le] at y; omega)), z⟩)) (fun _ => ?_)
    refine k_X7_64 dX7_drift_11 ?_
    exact xt_iret dX7_drift_13 rfl (lb rfl) (lb rfl) ⟨rfl, ⟨hI, FM_rf⟩, rfl⟩
set_option maxHeartbeats 400000 in
set_option maxRecDepth 100000 in
theorem cr_X7_drift {h : ax_H} {n : Nat} {m : Nat} {u : Nat} {im iu : Int32} {Wi : Nat → Nat → Int32} {t : Nat} {tp mn la : Nat → Int32} {it : Nat → Int64} {W : Nat → Nat → Int32} (hI : CB h (W 0) m (fun i => W (2 + i)) u im iu Wi t tp mn la it) (N : Nat) (hN : 1 ≤ N ∧ N ≤ 40) : ax_C yX7_drift cX7_drift 3 (some .int) 7 0 0 [.ref 0, .int (nI N)] h n (kE (nI (LN ((drN N (W, u)).1 0) (mOf ((drN N (W, u)).1 0)))) (fun h2 => ∃ m2, CB h2 ((drN N (W, u)).1 0) (m2) (fun i => (drN N (W, u)).1 (2 + i)) ((drN N (W, u)).2) im iu Wi t tp mn la it ∧ FM n h h2) n) := by
  refine ax_C.go RX7 "drift" [some (.ref 0), some (.int (nI N)), none] rfl rfl pn_X7 (lb rfl) rfl (fun l G cy bs => ?_)
  obtain ⟨a0, hS, hA, hW, hRd, hG, hM, hH⟩ := (id hI : CB h (W 0) m (fun i => W (2 + i)) u im iu Wi t tp mn la it)
  obtain ⟨sp, pi, pp, nw, bz, hd, dw, k1, hP, ⟨s1, s2, s3, s4, s5, s6⟩, k4⟩ := (id hS : SR h 1 _ _)
  obtain ⟨⟨fs1, o1⟩, o17, ⟨fs6, o115⟩, hu6, hm12⟩ := CB.o hI
  have hbz := s5.b
  have him := hM.b
  have lp : ∀ (d k : Nat), k + d = N → ∀ (h1 : ax_H) (W1 : Nat → Nat → Int32) (u1 m1 : Nat), CB h1 (W1 0) (m1) (fun i => W1 (2 + i)) (u1) im iu Wi t tp mn la it → FM n h h1 → drN d (W1, u1) = (drN N (W, u)) → ax_T l G cy bs (ax_rm 7 0 0) RX7 "drift" cX7_drift 3 (some .int) (kE (nI (LN ((drN N (W, u)).1 0) (mOf ((drN N (W, u)).1 0)))) (fun h2 => ∃ m2, CB h2 ((drN N (W, u)).1 0) (m2) (fun i => (drN N (W, u)).1 (2 + i)) ((drN N (W, u)).2) im iu Wi t tp mn la it ∧ FM n h h2) n) 0 0 16 [some (.ref 0), some (.int (nI N)), some (.int (nI k))] [] h1 n 0 0 := by
    intro d
    induction d with
    | zero =>
      intro k hk h1 W1 u1 m1 hI1 hF1 hr
      obtain ⟨a01, hS1, hA1, hW1, hRd1, hG1, hM1, hH1⟩ := (id hI1 : CB h1 _ _ _ _ _ _ _ _ _ _ _ _)
      obtain ⟨sp1, pi1, pp1, nw1, bz1, hd1, dw1, k11, hP1, ⟨s11, s21, s31, s41, s51, s61⟩, k41⟩ := (id hS1 : SR h1 1 _ _)
      obtain ⟨⟨fs11, o11⟩, o171, ⟨fs61, o1151⟩, hu61, hm121⟩ := CB.o hI1
      have hbz1 := s51.b
      have him1 := hM1.b
      have hr : (W1, u1) = (drN N (W, u)) := hr
      refine il2 dX7_drift_16 ?_
      refine il1 dX7_drift_17 ?_
      refine xt_icmp_ge 42 dX7_drift_18 rfl (fun _ => ?_) (fun q => absurd (nI_le (by omega) (by omega)) q)
      refine al0 dX7_drift_42 ?_
      refine g_X7_12 dX7_drift_43 a01 ?_
      refine s_X7_137 dX7_drift_46 (cr_X5_remaining hS1) k11.1 ⟨lb rfl, lb rfl, lb rfl, lb rfl⟩ ?_
      exact xt_iret dX7_drift_49 rfl (lb rfl) (lb rfl) ⟨by rw [← hr, sLeft_eq k41, mOf_eq k41.1.1 (by omega)], ⟨m1, by rw [← hr]; exact hI1, hF1⟩, rfl⟩
    | succ d ih =>
      intro k hk h1 W1 u1 m1 hI1 hF1 hr
      obtain ⟨a01, hS1, hA1, hW1, hRd1, hG1, hM1, hH1⟩ := (id hI1 : CB h1 _ _ _ _ _ _ _ _ _ _ _ _)
      obtain ⟨sp1, pi1, pp1, nw1, bz1, hd1, dw1, k11, hP1, ⟨s11, s21, s31, s41, s51, s61⟩, k41⟩ := (id hS1 : SR h1 1 _ _)
      obtain ⟨⟨fs11, o11⟩, o171, ⟨fs61, o1151⟩, hu61, hm121⟩ := CB.o hI1
      have hbz1 := s51.b
      have him1 := hM1.b
      refine il2 dX7_drift_16 ?_
      refine il1 dX7_drift_17 ?_
      refine xt_icmp_ge 42 dX7_drift_18 rfl (fun q => absurd q (nI_ge (by omega) (by omega))) (fun _ => ?_)
      refine al0 dX7_drift_21 ?_
      refine g_X7_19 dX7_drift_22 a01 ?_
      refine al0 dX7_drift_25 ?_
      refine g_X7_12 dX7_drift_26 a01 ?_
      refine sP_X7_148 dX7_drift_29 (cr_X1_keep hI1.2.2.1 hI1.2.1 (by omega)) o171 ⟨lb rfl, lb rfl, lb rfl, lb rfl⟩ ?_
      rintro h2 ⟨x1, x2⟩
      have hI2 := (hI1.pa x1 x2).Rc (kp_md hu61)
      obtain ⟨a02, hS2, hA2, hW2, hRd2, hG2, hM2, hH2⟩ := (id hI2 : CB h2 _ _ _ _ _ _ _ _ _ _ _ _)
      obtain ⟨sp2, pi2, pp2, nw2, bz2, hd2, dw2, k12, hP2, ⟨s12, s22, s32, s42, s52, s62⟩, k42⟩ := (id hS2 : SR h2 1 _ _)
      obtain ⟨⟨fs12, o12⟩, o172, ⟨fs62, o1152⟩, hu62, hm122⟩ := CB.o hI2
      have hbz2 := s52.b
      have him2 := hM2.b
      refine al0 dX7_drift_32 ?_
      refine sP_X7_166 dX7_drift_33 (cr_X7_driftOnce hI2) a02 ⟨lb rfl, lb rfl, lb rfl, lb rfl⟩ ?_
      rintro h3 ⟨m3, hI3, x3⟩
      refine inc2 (nI (k + 1)) dX7_drift_36 (nI_1 _) (by decide) rfl ?_
      refine xt_goto 16 dX7_drift_39 rfl ?_
      exact ih (k + 1) (by omega) h3 (va_up (mdW W1 u1) 0 (drR (W1 0))) (mdU u1) m3 hI3.up (FM_tr (FM_tr hF1 (FM_fr (by omega) x2)) x3) hr
  refine il1 dX7_drift_0 ?_
  refine xt_iconst (1) dX7_drift_1 rfl ?_
  refine xt_icmp_lt 11 dX7_drift_2 rfl (fun q => absurd q (nI_nlt (b := 1) (by omega) (by omega))) (fun _ => ?_)
  refine il1 dX7_drift_5 ?_
  refine xt_bipush (40) dX7_drift_6 rfl ?_
  refine xt_icmp_le 14 dX7_drift_8 rfl (fun _ => ?_) (fun q => absurd (nI_le (b := 40) (by omega) (by decide)) q)
  refine xt_iconst (0) dX7_drift_14 rfl ?_
  refine is2 dX7_drift_15 (by decide) rfl ?_
  exact lp N 0 (by omega) h W u m hI FM_rf rfl
