/-- a sheet that nothing is found against: its cells, and what may be written there -/
theorem sh_in {h : ax_H} {r : Nat → Int32} {m : Nat} {R : Nat → Nat → Int32} {u : Nat} {im iu : Int32} {Wi : Nat → Nat → Int32} {t : Nat} {tp mn la : Nat → Int32} {it : Nat → Int64} (hI : CB h r m R u im iu Wi t tp mn la it) {s : Nat} (hs : s < 4) {lane : Int32} {i y : Nat} (hi1 : i < 1000) (hy : y < 1000) (ha : agV mn la s lane (nI i) (nI y) = 0) : ∃ (k : Nat) (f : Nat → Int64), h (251 + 2 * s) = some (eSh (251 + 2 * s) 1 lane (nI k)) ∧ h (251 + 2 * s + 1) = some (ax_L 24 f) ∧ k ≤ 24 ∧ i + y ≤ k ∧ (∀ j, j < 24 → f j = it (24 * s + j)) ∧ ∀ (g it2 : Nat → Int64), (∀ j, j < 24 → g j = it2 (24 * s + j)) → (∀ p, (p < 24 * s ∨ 24 * s + 24 ≤ p) → it2 p = it p) → CB (hp h (251 + 2 * s + 1) (ax_L 24 g)) r m R u im iu Wi t tp mn la (it2) := by
  have hH := hI.2.2.2.2.2.2.2
  obtain ⟨th, l0, z0, f, e0, e1, e2⟩ := hH.2 s hs
  obtain ⟨rfl, k, hk, rfl, t4, t5, t6⟩ := sh_there (h := h) e2 ha
  obtain ⟨tl0, a, ta, tb⟩ := ag_nat (y := y) hk hy t4 ha
  obtain rfl : i = a := (nI_eq (by omega) (by omega)).mp ta
  obtain rfl : l0 = lane := t5.symm.trans tl0
  refine ⟨k, f, e0, e1, hk, tb, t6, fun g it2 hg ho => ?_⟩
  have q := SHS_put (h2 := hp h (251 + 2 * s + 1) (ax_L 24 g)) (mn2 := mn) (la2 := la) (it2 := it2) hH hs (fun j hj => by rw [hp_n _ _ (by omega)]) ⟨1, l0, nI k, g, hp_nt (by omega) e0, hp_s _ _ _, Or.inr ⟨rfl, k, hk, rfl, t4, t5, hg⟩⟩ (fun k2 hk2 hne => ⟨rfl, rfl, fun j hj => ho _ (by omega)⟩)
  exact hI.sh q.1 q.2
theorem lt4 {x : Int32} (h : 0 ≤ x ∧ x < 4) : 0 ≤ x ∧ x ≤ 3 := by
  simp only [fb_le, fb_lt, ti_0, ti_4, ti_3] at *; omega
theorem ge1 {x : Int32} (h : ¬ x < 1) : 1 ≤ x := by
  rw [fb_lt] at h; rw [fb_le]; omega
theorem nx_bg {x : Nat → Int32} {m : Nat} (h : RI x m) (hn : ¬ 0 ≤ x 5) (hm : 1 ≤ m) : nx (bgE x m) = nx x ∧ (¬ rFlag x = 0) ∧ ¬ rFlag (bgE x m) = 0 := by
  obtain ⟨m', rfl⟩ : ∃ m', m = m' + 1 := ⟨m - 1, by omega⟩
  obtain ⟨b1, b2, -⟩ := beg_inv h.1
  have hp := NW_pos b2
  have hl := h.1.2.1
  have f1 : rFlag (bgE x (m' + 1)) = 1 := flag_now hp
  have f2 : rFlag x = 1 := by
    unfold rFlag; rw [if_neg hn, h.1.1, if_neg (nI_ne0 (by omega) (by omega))]
  have hmo : mOf x = m' + 1 := mOf_eq h.1.1 (by omega)
  refine ⟨?_, by rw [f2]; decide, by rw [f1]; decide⟩
  unfold nx rStp
  rw [if_neg (by rw [f1]; decide), if_neg (by rw [f2]; decide)]
  unfold rBeg
  rw [if_pos hp, if_neg hn, hmo]
theorem cb_bg {it : Nat → Int64} {b N : Nat} {x : Nat → Int32} {m : Nat} (hN : 1 ≤ N) (h : RI x m) (hn : ¬ 0 ≤ x 5) (hm : 1 ≤ m) : cbF it b N 0 (bgE x m) = cbF it b N 0 x := by
  obtain ⟨q1, q2, q3⟩ := nx_bg h hn hm
  obtain ⟨N, rfl⟩ : ∃ j, N = j + 1 := ⟨N - 1, by omega⟩
  unfold cbF
  rw [if_neg q2, if_neg q3, q1]
theorem fil_out (lane : Int32) (b : Nat) : ∀ d k r it p, (p < b + 2 * k ∨ b + 2 * (k + d) ≤ p) → filF lane b d k r it p = it p
  | 0, _, _, _, _, _ => rfl
  | d + 1, k, r, it, p, h => by
    unfold filF
    rw [fil_out lane b d (k + 1) _ _ p (by omega), vpL, if_neg (by omega), vpL, if_neg (by omega)]
set_option maxHeartbeats 400000 in
set_option maxRecDepth 100000 in
theorem cr_X7_film_b {h : ax_H} {n : Nat} {r : Nat → Int32} {m : Nat} {R : Nat → Nat → Int32} {u : Nat} {im iu : Int32} {Wi : Nat → Nat → Int32} {t : Nat} {tp mn la : Nat → Int32} {it : Nat → Int64} (hI : CB h r m R u im iu Wi t tp mn la it) (x y lane i : Int32) (hx : ¬ ((1 ≤ x ∧ x ≤ 12) ∧ (0 ≤ y ∧ y ≤ 3) ∧ (0 ≤ lane ∧ lane ≤ 3))) : ax_C yX7_film cX7_film 8 (some .int) 5 0 0 [.ref 0, .int x, .int y, .int lane, .int i] h n (kE ((-1000001)) (fun h2 => CB h2 r m R u im iu Wi t tp mn la it ∧ FM n h h2) n) := by
  refine ax_C.go RX7 "film" [some (.ref 0), some (.int x), some (.int y), some (.int lane), some (.int i), none, none, none] rfl rfl pn_X7 (lb rfl) rfl (fun l G cy bs => ?_)
  obtain ⟨a0, hS, hA, hW, hRd, hG, hM, hH⟩ := (id hI : CB h _ _ _ _ _ _ _ _ _ _ _ _)
  obtain ⟨sp, pi, pp, nw, bz, hd, dw, k1, hP, ⟨s1, s2, s3, s4, s5, s6⟩, k4⟩ := (id hS : SR h 1 _ _)
  obtain ⟨⟨fs1, o1⟩, o17, ⟨fs6, o115⟩, hu6, hm12⟩ := CB.o hI
  have hbz := s5.b
  have him := hM.b
  refine il2 dX7_film_0 ?_
  refine s_X7_230 dX7_film_1 (cn_X7_isSheet _) ⟨lb rfl, lb rfl, lb rfl, lb rfl⟩ ?_
  refine xt_if_eq 25 dX7_film_4 rfl (fun c4 => ?_) (fun c4 => ?_)
  · refine k_X7_64 dX7_film_25 ?_
    exact xt_iret dX7_film_27 rfl (lb rfl) (lb rfl) ⟨rfl, ⟨hI, FM_rf⟩, rfl⟩
  · refine il3 dX7_film_7 ?_
    refine s_X7_233 dX7_film_8 (cn_X7_isLane _) ⟨lb rfl, lb rfl, lb rfl, lb rfl⟩ ?_
    refine xt_if_eq 25 dX7_film_11 rfl (fun c11 => ?_) (fun c11 => ?_)
    · refine k_X7_64 dX7_film_25 ?_
      exact xt_iret dX7_film_27 rfl (lb rfl) (lb rfl) ⟨rfl, ⟨hI, FM_rf⟩, rfl⟩
    · refine il1 dX7_film_14 ?_
      refine xt_iconst (1) dX7_film_15 rfl ?_
      refine xt_icmp_lt 25 dX7_film_16 rfl (fun c16 => ?_) (fun c16 => ?_)
      · refine k_X7_64 dX7_film_25 ?_
        exact xt_iret dX7_film_27 rfl (lb rfl) (lb rfl) ⟨rfl, ⟨hI, FM_rf⟩, rfl⟩
      · refine il1 dX7_film_19 ?_
        refine xt_bipush (12) dX7_film_20 rfl ?_
        refine xt_icmp_le 28 dX7_film_22 rfl (fun q => absurd q (fun z => hx ⟨⟨ge1 c16, z⟩, lt4 (of_fl1 c4), lt4 (of_fl1 c11)⟩)) (fun _ => ?_)
        refine k_X7_64 dX7_film_25 ?_
        exact xt_iret dX7_film_27 rfl (lb rfl) (lb rfl) ⟨rfl, ⟨hI, FM_rf⟩, rfl⟩
set_option maxHeartbeats 400000 in
set_option maxRecDepth 100000 in
theorem cr_X7_film_r {h : ax_H} {n : Nat} {r : Nat → Int32} {m : Nat} {R : Nat → Nat → Int32} {u : Nat} {im iu : Int32} {Wi : Nat → Nat → Int32} {t : Nat} {tp mn la : Nat → Int32} {it : Nat → Int64} (hI : CB h r m R u im iu Wi t tp mn la it) (x : Int32) (hx : 1 ≤ x ∧ x ≤ 12) (s : Nat) (hs : s < 4) (lane i : Int32) (hl : 0 ≤ lane ∧ lane ≤ 3) (hg : ¬ agV mn la s lane i (2 * x) = 0) : ax_C yX7_film cX7_film 8 (some .int) 5 0 0 [.ref 0, .int x, .int (nI s), .int lane, .int i] h n (kE (agV mn la s lane i (2 * x)) (fun h2 => CB h2 r m R u im iu Wi t tp mn la it ∧ FM n h h2) n) := by
  refine ax_C.go RX7 "film" [some (.ref 0), some (.int x), some (.int (nI s)), some (.int lane), some (.int i), none, none, none] rfl rfl pn_X7 (lb rfl) rfl (fun l G cy bs => ?_)
  obtain ⟨a0, hS, hA, hW, hRd, hG, hM, hH⟩ := (id hI : CB h _ _ _ _ _ _ _ _ _ _ _ _)
  obtain ⟨sp, pi, pp, nw, bz, hd, dw, k1, hP, ⟨s1, s2, s3, s4, s5, s6⟩, k4⟩ := (id hS : SR h 1 _ _)
  obtain ⟨⟨fs1, o1⟩, o17, ⟨fs6, o115⟩, hu6, hm12⟩ := CB.o hI
  have hbz := s5.b
  have him := hM.b
  obtain ⟨th, l0, z0, f, e0, e1, e2⟩ := hH.2 s hs
  have hth : th = 0 ∨ th = 1 := by rcases e2 with z | z; exact Or.inl z.1; exact Or.inr z.1
  have hrf := rf_ag (h := h) e2 lane i (2 * x)
  refine il2 dX7_film_0 ?_
  refine s_X7_230 dX7_film_1 (cn_X7_isSheet _) ⟨lb rfl, lb rfl, lb rfl, lb rfl⟩ ?_
  refine xt_if_eq 25 dX7_film_4 rfl (fun q => absurd q (fl1 ⟨nI_pos' (by omega), nI_lt (b := 4) hs (by decide)⟩)) (fun _ => ?_)
  refine il3 dX7_film_7 ?_
  refine s_X7_233 dX7_film_8 (cn_X7_isLane _) ⟨lb rfl, lb rfl, lb rfl, lb rfl⟩ ?_
  refine xt_if_eq 25 dX7_film_11 rfl (fun q => absurd q (fl1 (ax4' hl))) (fun _ => ?_)
  refine il1 dX7_film_14 ?_
  refine xt_iconst (1) dX7_film_15 rfl ?_
  refine xt_icmp_lt 25 dX7_film_16 rfl (fun q => absurd q (fun z => by have := hx.1; rw [fb_lt] at z; rw [fb_le] at this; omega)) (fun _ => ?_)
  refine il1 dX7_film_19 ?_
  refine xt_bipush (12) dX7_film_20 rfl ?_
  refine xt_icmp_le 28 dX7_film_22 rfl (fun _ => ?_) (fun q => absurd hx.2 q)
  refine al0 dX7_film_28 ?_
  refine g_X7_41 dX7_film_29 a0 ?_
  refine il2 dX7_film_32 ?_
  refine xt_aald4 (s) hH.1 (by omega) rfl (by decide) rfl dX7_film_33 ?_
  refine as5 dX7_film_34 (by decide) rfl ?_
  refine al5 dX7_film_36 ?_
  refine il3 dX7_film_38 ?_
  refine il4 dX7_film_39 ?_
  refine xt_iconst (2) dX7_film_41 rfl ?_
  refine il1 dX7_film_42 ?_
  refine xt_imul dX7_film_43 ?_
  refine s_X7_236 dX7_film_44 (cn_X4_refusal e0 lane i (2 * x)) e0 ⟨lb rfl, lb rfl, lb rfl, lb rfl⟩ ?_
  refine is6 dX7_film_47 (by decide) rfl ?_
  refine il6 dX7_film_49 ?_
  refine xt_if_eq 57 dX7_film_51 rfl (fun q => absurd q (by rw [hrf]; exact hg)) (fun _ => ?_)
  refine il6 dX7_film_54 ?_
  exact xt_iret dX7_film_56 rfl (lb rfl) (lb rfl) ⟨by rw [hrf], ⟨hI, FM_rf⟩, rfl⟩
set_option maxHeartbeats 400000 in
set_option maxRecDepth 100000 in
theorem cr_X7_film {h : ax_H} {n : Nat} {r : Nat → Int32} {m : Nat} {R : Nat → Nat → Int32} {u : Nat} {im iu : Int32} {Wi : Nat → Nat → Int32} {t : Nat} {tp mn la : Nat → Int32} {it : Nat → Int64} (hI : CB h r m R u im iu Wi t tp mn la it) (N : Nat) (hN : 1 ≤ N ∧ N ≤ 12) (s : Nat) (hs : s < 4) (lane : Int32) (hl : 0 ≤ lane ∧ lane ≤ 3) (i : Nat) (hi : i + 2 * N ≤ 24) (hg : agV mn la s lane (nI i) (nI (2 * N)) = 0) : ax_C yX7_film cX7_film 8 (some .int) 5 0 0 [.ref 0, .int (nI N), .int (nI s), .int lane, .int (nI i)] h n (kE (nI (2 * N)) (fun h2 => CB h2 r m R u im iu Wi t tp mn la (filF lane (24 * s + i) N 0 r it) ∧ FM n h h2) n) := by
  refine ax_C.go RX7 "film" [some (.ref 0), some (.int (nI N)), some (.int (nI s)), some (.int lane), some (.int (nI i)), none, none, none] rfl rfl pn_X7 (lb rfl) rfl (fun l G cy bs => ?_)
  obtain ⟨a0, hS, hA, hW, hRd, hG, hM, hH⟩ := (id hI : CB h _ _ _ _ _ _ _ _ _ _ _ _)
  obtain ⟨sp, pi, pp, nw, bz, hd, dw, k1, hP, ⟨s1, s2, s3, s4, s5, s6⟩, k4⟩ := (id hS : SR h 1 _ _)
  obtain ⟨⟨fs1, o1⟩, o17, ⟨fs6, o115⟩, hu6, hm12⟩ := CB.o hI
  have hbz := s5.b
  have him := hM.b
  have lp : ∀ (d k : Nat), k + d = N → ∀ (A : Int32) (h1 : ax_H) (r1 : Nat → Int32) (t1 : Nat) (f1 g1 : Nat → Int32) (i1 : Nat → Int64), CB h1 r m R u im iu Wi t tp mn la (i1) → FM n h h1 → WR h1 115 1 r m r1 t1 f1 g1 → filF lane (24 * s + i) d k r1 i1 = filF lane (24 * s + i) N 0 r it → ax_T l G cy bs (ax_rm 5 0 0) RX7 "film" cX7_film 8 (some .int) (kE (nI (2 * N)) (fun h2 => CB h2 r m R u im iu Wi t tp mn la (filF lane (24 * s + i) N 0 r it) ∧ FM n h h2) n) 0 0 67 [some (.ref 0), some (.int (nI N)), some (.int (nI s)), some (.int lane), some (.int (nI i)), some (.ref (251 + 2 * s)), some (.int A), some (.int (nI k))] [] h1 n 0 0 := by
    intro d
    induction d with
    | zero =>
      intro k hk A h1 r1 t1 f1 g1 i1 hI1 hF1 w1 hr
      obtain ⟨q1, bz1, wf1, ws1, wj1, wb1, wr1⟩ := (id w1 : WR h1 115 1 _ _ _ _ _ _)
      have a01 := hI1.1
      have hr : i1 = filF lane (24 * s + i) N 0 r it := hr
      refine il7 dX7_film_67 ?_
      refine il1 dX7_film_69 ?_
      refine xt_icmp_ge 133 dX7_film_70 rfl (fun _ => ?_) (fun q => absurd (nI_le (by omega) (by omega)) q)
      refine xt_iconst (2) dX7_film_133 rfl ?_
      refine il1 dX7_film_134 ?_
      refine xt_imul dX7_film_135 ?_
      refine xt_eqv (nI (2 * N)) ((ne_mul (a := 2) (b := N) rfl rfl).trans (congrArg nI (by omega))) ?_
      exact xt_iret dX7_film_136 rfl (lb rfl) (lb rfl) ⟨rfl, ⟨by rw [← hr]; exact hI1, hF1⟩, rfl⟩
    | succ d ih =>
      intro k hk A h1 r1 t1 f1 g1 i1 hI1 hF1 w1 hr
      obtain ⟨q1, bz1, wf1, ws1, wj1, wb1, wr1⟩ := (id w1 : WR h1 115 1 _ _ _ _ _ _)
      have a01 := hI1.1
      refine il7 dX7_film_67 ?_
      refine il1 dX7_film_69 ?_
      refine xt_icmp_ge 133 dX7_film_70 rfl (fun q => absurd q (nI_ge (by omega) (by omega))) (fun _ => ?_)
      refine al0 dX7_film_73 ?_
      refine g_X7_28 dX7_film_74 a01 ?_
      refine sP_X7_184 dX7_film_77 (cr_X6_advance w1 (by omega)) wf1.1 ⟨lb rfl, lb rfl, lb rfl, lb rfl⟩ ?_
      rintro h2 ⟨⟨t2, f2, g2, w2, gm2⟩, hf2⟩
      obtain ⟨q2, bz2, wf2, ws2, wj2, wb2, wr2⟩ := (id w2 : WR h2 115 1 _ _ _ _ _ _)
      have hI2 := hI1.wk w2.wx hf2
      have a02 := hI2.1
      obtain ⟨kz, f, e0, e1, hkz, hik, t6, hput⟩ := sh_in hI2 hs (by omega) (by omega) hg
      refine xt_pop dX7_film_80 rfl ?_
      refine al5 dX7_film_81 ?_
      refine il4 dX7_film_83 ?_
      refine xt_iconst (2) dX7_film_85 rfl ?_
      refine il7 dX7_film_86 ?_
      refine xt_imul dX7_film_88 ?_
      refine xt_iadd dX7_film_89 ?_
      refine xt_eqv (nI (i + 2 * k)) ((ne_add (a := i) (b := (2) * (k)) rfl (ne_mul (a := 2) (b := k) rfl rfl)).trans (congrArg nI (by omega))) ?_
      refine al0 dX7_film_90 ?_
      refine g_X7_28 dX7_film_91 a02 ?_
      refine g_X7_187 dX7_film_94 wf2.1 ?_
      refine xt_iconst (0) dX7_film_97 rfl ?_
      refine xt_iald (0) wf2.2.2.1 (by omega) rfl (by decide) dX7_film_98 ?_
      refine xt_i2l dX7_film_99 ?_
      refine s_X7_243 dX7_film_100 (cn_X4_put e0 e1 (i + 2 * k) (by omega) hkz _) e0 ⟨lb rfl, lb rfl, lb rfl, lb rfl⟩ ?_
      refine al5 dX7_film_103 ?_
      refine il4 dX7_film_105 ?_
      refine xt_iconst (2) dX7_film_107 rfl ?_
      refine il7 dX7_film_108 ?_
      refine xt_imul dX7_film_110 ?_
      refine xt_iadd dX7_film_111 ?_
      refine xt_iconst (1) dX7_film_112 rfl ?_
      refine xt_iadd dX7_film_113 ?_
      refine xt_eqv (nI (i + 2 * k + 1)) ((ne_add (a := i + (2) * (k)) (b := 1) (ne_add (a := i) (b := (2) * (k)) rfl (ne_mul (a := 2) (b := k) rfl rfl)) rfl).trans (congrArg nI (by omega))) ?_
      refine al0 dX7_film_114 ?_
      refine g_X7_28 dX7_film_115 (hp_nt (by omega) a02) ?_
      refine g_X7_187 dX7_film_118 (hp_nt (by omega) wf2.1) ?_
      refine xt_iconst (1) dX7_film_121 rfl ?_
      refine xt_iald (1) (hp_nt (by omega) wf2.2.2.1) (by omega) rfl (by decide) dX7_film_122 ?_
      refine xt_i2l dX7_film_123 ?_
      refine s_X7_243 dX7_film_124 (cn_X4_put (hp_nt (by omega) e0) (hp_s _ _ _) (i + 2 * k + 1) (by omega) hkz _) (hp_nt (by omega) e0) ⟨lb rfl, lb rfl, lb rfl, lb rfl⟩ ?_
      refine xt_eq (hp_hp _ _ _ _) ?_
      refine inc7 (nI (k + 1)) dX7_film_127 (nI_1 _) (by decide) rfl ?_
      refine xt_goto 67 dX7_film_130 rfl ?_
      have hI4 := hput (vp_updL (vp_updL f (i + 2 * k) (lowV lane (f2 0).toInt64)) (i + 2 * k + 1) (lowV lane (f2 1).toInt64)) (vp_updL (vp_updL i1 (24 * s + i + 2 * k) (lowV lane (nx r1 0).toInt64)) (24 * s + i + 2 * k + 1) (lowV lane (nx r1 1).toInt64)) (fun j hj => by
        rw [vpL, vpL, vpL, vpL, wj2 0 (by omega), wj2 1 (by omega), t6 j hj]
        by_cases e : j = i + 2 * k + 1
        · rw [if_pos e, if_pos (by omega)]
        · rw [if_neg e, if_neg (show ¬ 24 * s + j = 24 * s + i + 2 * k + 1 by omega)]
          by_cases e' : j = i + 2 * k
          · rw [if_pos e', if_pos (by omega)]
          · rw [if_neg e', if_neg (by omega)]) (fun p hp_ => by rw [vpL, if_neg (by omega), vpL, if_neg (by omega)])
      exact ih (k + 1) (by omega) _ _ (nx r1) t2 f2 g2 _ hI4 (FM_tr hF1 (FM_tr (FM_fr (by omega) hf2) (fun j a b => hp_n _ _ (by omega)))) (w2.fr (fun j a b => hp_n _ _ (by omega)) (fun j a b => hp_n _ _ (by omega))) hr
  obtain ⟨kz0, f0, e0, e1, -, -, -, -⟩ := sh_in hI hs (by omega) (by omega) hg
  have hrf : rfV 1 lane (nI kz0) lane (nI i) (nI (2 * N)) = 0 := by
    obtain ⟨th, l0, z0, f, e02, e12, e22⟩ := hH.2 s hs
    have e : some (eSh (251 + 2 * s) th l0 z0) = some (eSh (251 + 2 * s) 1 lane (nI kz0)) := e02.symm.trans e0
    simp only [Option.some.injEq, Sum.inr.injEq, Prod.mk.injEq, List.cons.injEq, Value.int.injEq] at e
    obtain ⟨-, -, rfl, rfl, rfl, -⟩ := e
    rw [rf_ag (h := h) e22]; exact hg
  refine il2 dX7_film_0 ?_
  refine s_X7_230 dX7_film_1 (cn_X7_isSheet _) ⟨lb rfl, lb rfl, lb rfl, lb rfl⟩ ?_
  refine xt_if_eq 25 dX7_film_4 rfl (fun q => absurd q (fl1 ⟨nI_pos' (by omega), nI_lt (b := 4) hs (by decide)⟩)) (fun _ => ?_)
  refine il3 dX7_film_7 ?_
  refine s_X7_233 dX7_film_8 (cn_X7_isLane _) ⟨lb rfl, lb rfl, lb rfl, lb rfl⟩ ?_
  refine xt_if_eq 25 dX7_film_11 rfl (fun q => absurd q (fl1 (ax4' hl))) (fun _ => ?_)
  refine il1 dX7_film_14 ?_
  refine xt_iconst (1) dX7_film_15 rfl ?_
  refine xt_icmp_lt 25 dX7_film_16 rfl (fun q => absurd q (nI_nlt (b := 1) (by omega) (by omega))) (fun _ => ?_)
  refine il1 dX7_film_19 ?_
  refine xt_bipush (12) dX7_film_20 rfl ?_
  refine xt_icmp_le 28 dX7_film_22 rfl (fun _ => ?_) (fun q => absurd (nI_le (b := 12) (by omega) (by decide)) q)
  refine al0 dX7_film_28 ?_
  refine g_X7_41 dX7_film_29 a0 ?_
  refine il2 dX7_film_32 ?_
  refine xt_aald4 (s) hH.1 (by omega) rfl (by decide) rfl dX7_film_33 ?_
  refine as5 dX7_film_34 (by decide) rfl ?_
  refine al5 dX7_film_36 ?_
  refine il3 dX7_film_38 ?_
  refine il4 dX7_film_39 ?_
  refine xt_iconst (2) dX7_film_41 rfl ?_
  refine il1 dX7_film_42 ?_
  refine xt_imul dX7_film_43 ?_
  refine xt_eqv (nI (2 * N)) ((ne_mul (a := 2) (b := N) rfl rfl).trans (congrArg nI (by omega))) ?_
  refine s_X7_236 dX7_film_44 (cn_X4_refusal e0 lane (nI i) (nI (2 * N))) e0 ⟨lb rfl, lb rfl, lb rfl, lb rfl⟩ ?_
  refine is6 dX7_film_47 (by decide) rfl ?_
  refine il6 dX7_film_49 ?_
  refine xt_if_eq 57 dX7_film_51 rfl (fun _ => ?_) (fun q => absurd hrf q)
  refine al0 dX7_film_57 ?_
  refine g_X7_28 dX7_film_58 a0 ?_
  refine sP_X7_175 dX7_film_61 (cr_X6_begin hW hS (by omega)) o115 ⟨lb rfl, lb rfl, lb rfl, lb rfl⟩ ?_
  rintro h1 ⟨⟨f1, g1, w1⟩, hF1⟩
  obtain ⟨q1, bz1, wf1, ws1, wj1, wb1, wr1⟩ := (id w1 : WR h1 115 1 _ _ _ _ _ _)
  have a01 : h1 0 = some (eX7 im) := by rw [hF1 _ (by omega)]; exact a0
  refine xt_iconst (0) dX7_film_64 rfl ?_
  refine is7 dX7_film_65 (by decide) rfl ?_
  exact lp N 0 (by omega) _ h1 r 0 f1 g1 it (hI.wk w1.wx hF1) (FM_fr (by omega) hF1) w1 rfl
set_option maxHeartbeats 400000 in
set_option maxRecDepth 100000 in
theorem cr_X7_comesSo {h : ax_H} {n : Nat} {r : Nat → Int32} {m : Nat} {R : Nat → Nat → Int32} {u : Nat} {im iu : Int32} {Wi : Nat → Nat → Int32} {t : Nat} {tp mn la : Nat → Int32} {it : Nat → Int64} (hI : CB h r m R u im iu Wi t tp mn la it) {s kz : Nat} {ls : Int32} {fS : Nat → Int64} (hs : s < 4) (e0 : h (251 + 2 * s) = some (eSh (251 + 2 * s) 1 ls (nI kz))) (e1 : h (251 + 2 * s + 1) = some (ax_L 24 fS)) (hkz : kz ≤ 24) (t6 : ∀ j, j < 24 → fS j = it (24 * s + j)) (kd : Int32) (i N : Nat) (hN : 1 ≤ N ∧ N ≤ 6) (hi : i + 2 * N ≤ kz) (hn : ¬ 0 ≤ r 5) (hm1 : 1 ≤ m) : ax_C yX7_comesSo cX7_comesSo 7 (some .boolean) 5 0 0 [.ref 0, .int kd, .ref (251 + 2 * s), .int (nI i), .int (nI N)] h n (kE (cbK r it (24 * s + i) N kd) (fun h2 => CB h2 r m R u im iu Wi t tp mn la it ∧ FM n h h2) n) := by
  refine ax_C.go RX7 "comesSo" [some (.ref 0), some (.int kd), some (.ref (251 + 2 * s)), some (.int (nI i)), some (.int (nI N)), none, none] rfl rfl pn_X7 (lb rfl) rfl (fun l G cy bs => ?_)
  obtain ⟨a0, hS, hA, hW, hRd, hG, hM, hH⟩ := (id hI : CB h _ _ _ _ _ _ _ _ _ _ _ _)
  obtain ⟨sp, pi, pp, nw, bz, hd, dw, k1, hP, ⟨s1, s2, s3, s4, s5, s6⟩, k4⟩ := (id hS : SR h 1 _ _)
  obtain ⟨⟨fs1, o1⟩, o17, ⟨fs6, o115⟩, hu6, hm12⟩ := CB.o hI
  have hbz := s5.b
  have him := hM.b
  have hpk := hP.1 0 (by omega)
  have hq1 : pp (pi 0) 1 = r 14 := by rw [s4 0 hm1 1 (by omega)]; rfl
  have hq2 : pp (pi 0) 2 = r 15 := by rw [s4 0 hm1 2 (by omega)]; rfl
  have hq3 : pp (pi 0) 3 = r 16 := by rw [s4 0 hm1 3 (by omega)]; rfl
  have lp : ∀ (d k : Nat), k + d = N → ∀ (A : Nat) (h1 : ax_H) (r1 : Nat → Int32) (t1 : Nat) (f1 g1 : Nat → Int32), fr 115 4 h h1 → WR h1 115 1 r m r1 t1 f1 g1 → cbF it (24 * s + i) d k r1 = cbK r it (24 * s + i) N kd → ax_T l G cy bs (ax_rm 5 0 0) RX7 "comesSo" cX7_comesSo 7 (some .boolean) (kE (cbK r it (24 * s + i) N kd) (fun h2 => CB h2 r m R u im iu Wi t tp mn la it ∧ FM n h h2) n) 0 0 46 [some (.ref 0), some (.int kd), some (.ref (251 + 2 * s)), some (.int (nI i)), some (.int (nI N)), some (.ref A), some (.int (nI k))] [] h1 n 0 0 := by
    intro d
    induction d with
    | zero =>
      intro k hk A h1 r1 t1 f1 g1 hF1 w1 hr
      obtain ⟨q1, bz1, wf1, ws1, wj1, wb1, wr1⟩ := (id w1 : WR h1 115 1 _ _ _ _ _ _)
      have a01 : h1 0 = some (eX7 im) := by rw [hF1 _ (by omega)]; exact a0
      refine il6 dX7_comesSo_46 ?_
      refine il4 dX7_comesSo_48 ?_
      refine xt_icmp_ge 123 dX7_comesSo_50 rfl (fun _ => ?_) (fun q => absurd (nI_le (by omega) (by omega)) q)
      refine xt_iconst (1) dX7_comesSo_123 rfl ?_
      exact xt_zret dX7_comesSo_124 rfl (Or.inr rfl) (lb rfl) (lb rfl) ⟨by rw [← hr]; rfl, ⟨hI.wk w1.wx hF1, FM_fr (by omega) hF1⟩, rfl⟩
    | succ d ih =>
      intro k hk A h1 r1 t1 f1 g1 hF1 w1 hr
      obtain ⟨q1, bz1, wf1, ws1, wj1, wb1, wr1⟩ := (id w1 : WR h1 115 1 _ _ _ _ _ _)
      have a01 : h1 0 = some (eX7 im) := by rw [hF1 _ (by omega)]; exact a0
      refine il6 dX7_comesSo_46 ?_
      refine il4 dX7_comesSo_48 ?_
      refine xt_icmp_ge 123 dX7_comesSo_50 rfl (fun q => absurd q (nI_ge (by omega) (by omega))) (fun _ => ?_)
      refine al0 dX7_comesSo_53 ?_
      refine g_X7_28 dX7_comesSo_54 a01 ?_
      refine sP_X7_184 dX7_comesSo_57 (cr_X6_advance w1 (by omega)) wf1.1 ⟨lb rfl, lb rfl, lb rfl, lb rfl⟩ ?_
      rintro h2 ⟨⟨t2, f2, g2, w2, gm2⟩, hf2⟩
      have hF2 : fr 115 4 h h2 := fun j hj => (hf2 j hj).trans (hF1 j hj)
      obtain ⟨q2, bz2, wf2, ws2, wj2, wb2, wr2⟩ := (id w2 : WR h2 115 1 _ _ _ _ _ _)
      have a02 : h2 0 = some (eX7 im) := by rw [hF2 _ (by omega)]; exact a0
      have e02 : h2 (251 + 2 * s) = some (eSh (251 + 2 * s) 1 ls (nI kz)) := by rw [hF2 _ (by omega)]; exact e0
      have e12 : h2 (251 + 2 * s + 1) = some (ax_L 24 fS) := by rw [hF2 _ (by omega)]; exact e1
      have e3 : fS (i + 2 * k) = it (24 * s + i + 2 * k) := by rw [t6 _ (by omega)]; congr 1; omega
      have e4 : fS (i + 2 * k + 1) = it (24 * s + i + 2 * k + 1) := by rw [t6 _ (by omega)]; congr 1; omega
      refine xt_if_ne 65 dX7_comesSo_60 rfl (fun c60 => ?_) (fun c60 => ?_)
      · refine al2 dX7_comesSo_65 ?_
        refine il3 dX7_comesSo_66 ?_
        refine xt_iconst (2) dX7_comesSo_67 rfl ?_
        refine il6 dX7_comesSo_68 ?_
        refine xt_imul dX7_comesSo_70 ?_
        refine xt_iadd dX7_comesSo_71 ?_
        refine xt_eqv (nI (i + 2 * k)) ((ne_add (a := i) (b := (2) * (k)) rfl (ne_mul (a := 2) (b := k) rfl rfl)).trans (congrArg nI (by omega))) ?_
        refine s_X7_293 dX7_comesSo_72 (cn_X4_get e02 e12 (i + 2 * k) (by omega) hkz) e02 ⟨lb rfl, lb rfl, lb rfl, lb rfl⟩ ?_
        refine al0 dX7_comesSo_75 ?_
        refine g_X7_28 dX7_comesSo_76 a02 ?_
        refine g_X7_187 dX7_comesSo_79 wf2.1 ?_
        refine xt_iconst (0) dX7_comesSo_82 rfl ?_
        refine xt_iald (0) wf2.2.2.1 (by omega) rfl (by decide) dX7_comesSo_83 ?_
        refine xt_i2l dX7_comesSo_84 ?_
        refine xt_lcmp dX7_comesSo_85 ?_
        refine xt_if_ne 115 dX7_comesSo_86 rfl (fun c86 => ?_) (fun c86 => ?_)
        · refine xt_iconst (0) dX7_comesSo_115 rfl ?_
          exact xt_zret dX7_comesSo_116 rfl (Or.inl rfl) (lb rfl) (lb rfl) ⟨by rw [← hr, cbF, if_neg c60, if_neg (fun z => c86 ((lc_eq _ _).mpr (by rw [e3, wj2 0 (by omega)]; exact z)))], ⟨hI.wk w2.wx hF2, FM_fr (by omega) hF2⟩, rfl⟩
        · refine al2 dX7_comesSo_89 ?_
          refine il3 dX7_comesSo_90 ?_
          refine xt_iconst (2) dX7_comesSo_91 rfl ?_
          refine il6 dX7_comesSo_92 ?_
          refine xt_imul dX7_comesSo_94 ?_
          refine xt_iadd dX7_comesSo_95 ?_
          refine xt_iconst (1) dX7_comesSo_96 rfl ?_
          refine xt_iadd dX7_comesSo_97 ?_
          refine xt_eqv (nI (i + 2 * k + 1)) ((ne_add (a := i + (2) * (k)) (b := 1) (ne_add (a := i) (b := (2) * (k)) rfl (ne_mul (a := 2) (b := k) rfl rfl)) rfl).trans (congrArg nI (by omega))) ?_
          refine s_X7_293 dX7_comesSo_98 (cn_X4_get e02 e12 (i + 2 * k + 1) (by omega) hkz) e02 ⟨lb rfl, lb rfl, lb rfl, lb rfl⟩ ?_
          refine al0 dX7_comesSo_101 ?_
          refine g_X7_28 dX7_comesSo_102 a02 ?_
          refine g_X7_187 dX7_comesSo_105 wf2.1 ?_
          refine xt_iconst (1) dX7_comesSo_108 rfl ?_
          refine xt_iald (1) wf2.2.2.1 (by omega) rfl (by decide) dX7_comesSo_109 ?_
          refine xt_i2l dX7_comesSo_110 ?_
          refine xt_lcmp dX7_comesSo_111 ?_
          refine xt_if_eq 117 dX7_comesSo_112 rfl (fun c112 => ?_) (fun c112 => ?_)
          · refine inc6 (nI (k + 1)) dX7_comesSo_117 (nI_1 _) (by decide) rfl ?_
            refine xt_goto 46 dX7_comesSo_120 rfl ?_
            exact ih (k + 1) (by omega) _ h2 (nx r1) t2 f2 g2 hF2 w2 (by rw [← hr, cbF, if_neg c60, if_pos (by rw [← e3, ← wj2 0 (by omega)]; exact (lc_eq _ _).mp c86), if_pos (by rw [← e4, ← wj2 1 (by omega)]; exact (lc_eq _ _).mp c112)])
          · refine xt_iconst (0) dX7_comesSo_115 rfl ?_
            exact xt_zret dX7_comesSo_116 rfl (Or.inl rfl) (lb rfl) (lb rfl) ⟨by rw [← hr, cbF, if_neg c60, if_pos (by rw [← e3, ← wj2 0 (by omega)]; exact (lc_eq _ _).mp c86), if_neg (fun z => c112 ((lc_eq _ _).mpr (by rw [e4, wj2 1 (by omega)]; exact z)))], ⟨hI.wk w2.wx hF2, FM_fr (by omega) hF2⟩, rfl⟩
      · refine xt_iconst (0) dX7_comesSo_63 rfl ?_
        exact xt_zret dX7_comesSo_64 rfl (Or.inl rfl) (lb rfl) (lb rfl) ⟨by rw [← hr, cbF, if_pos c60], ⟨hI.wk w2.wx hF2, FM_fr (by omega) hF2⟩, rfl⟩
  refine al0 dX7_comesSo_0 ?_
  refine g_X7_12 dX7_comesSo_1 a0 ?_
  refine g_X7_72 dX7_comesSo_4 k1.1 ?_
  refine xt_iconst (0) dX7_comesSo_7 rfl ?_
  refine xt_aald3 (0) k1.2.2.1 (by omega) rfl (by decide) rfl dX7_comesSo_8 ?_
  refine as5 dX7_comesSo_9 (by decide) rfl ?_
  refine il1 dX7_comesSo_11 ?_
  refine al5 dX7_comesSo_12 ?_
  refine g_X7_118 dX7_comesSo_14 (k1.2.2.2.2 (pi (0)) (hP.1 _ (by omega))) ?_
  refine al5 dX7_comesSo_17 ?_
  refine g_X7_121 dX7_comesSo_19 (k1.2.2.2.2 (pi (0)) (hP.1 _ (by omega))) ?_
  refine al5 dX7_comesSo_22 ?_
  refine g_X7_124 dX7_comesSo_24 (k1.2.2.2.2 (pi (0)) (hP.1 _ (by omega))) ?_
  refine s_X7_281 dX7_comesSo_27 (cn_X7_fits _ _ _ _) ⟨lb rfl, lb rfl, lb rfl, lb rfl⟩ ?_
  refine xt_if_ne 35 dX7_comesSo_30 rfl (fun c30 => ?_) (fun c30 => ?_)
  · have hok : okP kd (r 14) (r 15) (r 16) := by rw [← hq1, ← hq2, ← hq3]; exact of_fl1 c30
    refine al0 dX7_comesSo_35 ?_
    refine g_X7_28 dX7_comesSo_36 a0 ?_
    refine il1 dX7_comesSo_39 ?_
    refine sP_X7_290 dX7_comesSo_40 (cr_X6_beginAs hW hS (by omega) hn hm1 kd hok) o115 ⟨lb rfl, lb rfl, lb rfl, lb rfl⟩ ?_
    rintro h1 ⟨⟨f1, g1, w1⟩, hF1⟩
    refine xt_iconst (0) dX7_comesSo_43 rfl ?_
    refine is6 dX7_comesSo_44 (by decide) rfl ?_
    exact lp N 0 (by omega) _ h1 _ 1 f1 g1 hF1 w1 (by unfold cbK; rw [if_pos hok]; exact cb_bg hN.1 (RI_kd k4 hn hm1 hok) (by rw [upd, if_neg (by omega)]; exact hn) hm1)
  · refine xt_iconst (0) dX7_comesSo_33 rfl ?_
    exact xt_zret dX7_comesSo_34 rfl (Or.inl rfl) (lb rfl) (lb rfl) ⟨by unfold cbK; rw [if_neg (by rw [← hq1, ← hq2, ← hq3]; exact of_fl0 c30)], ⟨hI, FM_rf⟩, rfl⟩
set_option maxHeartbeats 400000 in
set_option maxRecDepth 100000 in
theorem cr_X7_came_b {h : ax_H} {n : Nat} {r : Nat → Int32} {m : Nat} {R : Nat → Nat → Int32} {u : Nat} {im iu : Int32} {Wi : Nat → Nat → Int32} {t : Nat} {tp mn la : Nat → Int32} {it : Nat → Int64} (hI : CB h r m R u im iu Wi t tp mn la it) (x lane i y : Int32) (hx : ¬ ((0 ≤ x ∧ x ≤ 3) ∧ (0 ≤ lane ∧ lane ≤ 3) ∧ (1 ≤ y ∧ y ≤ 6))) : ax_C yX7_came cX7_came 9 (some .int) 6 0 0 [.ref 0, .int x, .int lane, .int i, .int y] h n (kE ((-1000001)) (fun h2 => CB h2 r m R u im iu Wi t tp mn la it ∧ FM n h h2) n) := by
  refine ax_C.go RX7 "came" [some (.ref 0), some (.int x), some (.int lane), some (.int i), some (.int y), none, none, none, none] rfl rfl pn_X7 (lb rfl) rfl (fun l G cy bs => ?_)
  obtain ⟨a0, hS, hA, hW, hRd, hG, hM, hH⟩ := (id hI : CB h _ _ _ _ _ _ _ _ _ _ _ _)
  obtain ⟨sp, pi, pp, nw, bz, hd, dw, k1, hP, ⟨s1, s2, s3, s4, s5, s6⟩, k4⟩ := (id hS : SR h 1 _ _)
  obtain ⟨⟨fs1, o1⟩, o17, ⟨fs6, o115⟩, hu6, hm12⟩ := CB.o hI
  have hbz := s5.b
  have him := hM.b
  refine il1 dX7_came_0 ?_
  refine s_X7_230 dX7_came_1 (cn_X7_isSheet _) ⟨lb rfl, lb rfl, lb rfl, lb rfl⟩ ?_
  refine xt_if_eq 27 dX7_came_4 rfl (fun c4 => ?_) (fun c4 => ?_)
  · refine k_X7_64 dX7_came_27 ?_
    exact xt_iret dX7_came_29 rfl (lb rfl) (lb rfl) ⟨rfl, ⟨hI, FM_rf⟩, rfl⟩
  · refine il2 dX7_came_7 ?_
    refine s_X7_233 dX7_came_8 (cn_X7_isLane _) ⟨lb rfl, lb rfl, lb rfl, lb rfl⟩ ?_
    refine xt_if_eq 27 dX7_came_11 rfl (fun c11 => ?_) (fun c11 => ?_)
    · refine k_X7_64 dX7_came_27 ?_
      exact xt_iret dX7_came_29 rfl (lb rfl) (lb rfl) ⟨rfl, ⟨hI, FM_rf⟩, rfl⟩
    · refine il4 dX7_came_14 ?_
      refine xt_iconst (1) dX7_came_16 rfl ?_
      refine xt_icmp_lt 27 dX7_came_17 rfl (fun c17 => ?_) (fun c17 => ?_)
      · refine k_X7_64 dX7_came_27 ?_
        exact xt_iret dX7_came_29 rfl (lb rfl) (lb rfl) ⟨rfl, ⟨hI, FM_rf⟩, rfl⟩
      · refine il4 dX7_came_20 ?_
        refine xt_bipush (6) dX7_came_22 rfl ?_
        refine xt_icmp_le 30 dX7_came_24 rfl (fun q => absurd q (fun z => hx ⟨lt4 (of_fl1 c4), lt4 (of_fl1 c11), ⟨ge1 c17, z⟩⟩)) (fun _ => ?_)
        refine k_X7_64 dX7_came_27 ?_
        exact xt_iret dX7_came_29 rfl (lb rfl) (lb rfl) ⟨rfl, ⟨hI, FM_rf⟩, rfl⟩
set_option maxHeartbeats 400000 in
set_option maxRecDepth 100000 in
theorem cr_X7_came_r {h : ax_H} {n : Nat} {r : Nat → Int32} {m : Nat} {R : Nat → Nat → Int32} {u : Nat} {im iu : Int32} {Wi : Nat → Nat → Int32} {t : Nat} {tp mn la : Nat → Int32} {it : Nat → Int64} (hI : CB h r m R u im iu Wi t tp mn la it) (s : Nat) (hs : s < 4) (lane : Int32) (hl : 0 ≤ lane ∧ lane ≤ 3) (i y : Int32) (hx : 1 ≤ y ∧ y ≤ 6) (hg : ¬ agV mn la s lane i (2 * y) = 0) : ax_C yX7_came cX7_came 9 (some .int) 6 0 0 [.ref 0, .int (nI s), .int lane, .int i, .int y] h n (kE (agV mn la s lane i (2 * y)) (fun h2 => CB h2 r m R u im iu Wi t tp mn la it ∧ FM n h h2) n) := by
  refine ax_C.go RX7 "came" [some (.ref 0), some (.int (nI s)), some (.int lane), some (.int i), some (.int y), none, none, none, none] rfl rfl pn_X7 (lb rfl) rfl (fun l G cy bs => ?_)
  obtain ⟨a0, hS, hA, hW, hRd, hG, hM, hH⟩ := (id hI : CB h _ _ _ _ _ _ _ _ _ _ _ _)
  obtain ⟨sp, pi, pp, nw, bz, hd, dw, k1, hP, ⟨s1, s2, s3, s4, s5, s6⟩, k4⟩ := (id hS : SR h 1 _ _)
  obtain ⟨⟨fs1, o1⟩, o17, ⟨fs6, o115⟩, hu6, hm12⟩ := CB.o hI
  have hbz := s5.b
  have him := hM.b
  obtain ⟨th, l0, z0, f, e0, e1, e2⟩ := hH.2 s hs
  have hth : th = 0 ∨ th = 1 := by rcases e2 with z | z; exact Or.inl z.1; exact Or.inr z.1
  have hrf := rf_ag (h := h) e2 lane i (2 * y)
  refine il1 dX7_came_0 ?_
  refine s_X7_230 dX7_came_1 (cn_X7_isSheet _) ⟨lb rfl, lb rfl, lb rfl, lb rfl⟩ ?_
  refine xt_if_eq 27 dX7_came_4 rfl (fun q => absurd q (fl1 ⟨nI_pos' (by omega), nI_lt (b := 4) hs (by decide)⟩)) (fun _ => ?_)
  refine il2 dX7_came_7 ?_
  refine s_X7_233 dX7_came_8 (cn_X7_isLane _) ⟨lb rfl, lb rfl, lb rfl, lb rfl⟩ ?_
  refine xt_if_eq 27 dX7_came_11 rfl (fun q => absurd q (fl1 (ax4' hl))) (fun _ => ?_)
  refine il4 dX7_came_14 ?_
  refine xt_iconst (1) dX7_came_16 rfl ?_
  refine xt_icmp_lt 27 dX7_came_17 rfl (fun q => absurd q (fun z => by have := hx.1; rw [fb_lt] at z; rw [fb_le] at this; omega)) (fun _ => ?_)
  refine il4 dX7_came_20 ?_
  refine xt_bipush (6) dX7_came_22 rfl ?_
  refine xt_icmp_le 30 dX7_came_24 rfl (fun _ => ?_) (fun q => absurd hx.2 q)
  refine al0 dX7_came_30 ?_
  refine g_X7_41 dX7_came_31 a0 ?_
  refine il1 dX7_came_34 ?_
  refine xt_aald4 (s) hH.1 (by omega) rfl (by decide) rfl dX7_came_35 ?_
  refine as5 dX7_came_36 (by decide) rfl ?_
  refine al5 dX7_came_38 ?_
  refine il2 dX7_came_40 ?_
  refine il3 dX7_came_41 ?_
  refine xt_iconst (2) dX7_came_42 rfl ?_
  refine il4 dX7_came_43 ?_
  refine xt_imul dX7_came_45 ?_
  refine s_X7_236 dX7_came_46 (cn_X4_refusal e0 lane i (2 * y)) e0 ⟨lb rfl, lb rfl, lb rfl, lb rfl⟩ ?_
  refine is6 dX7_came_49 (by decide) rfl ?_
  refine il6 dX7_came_51 ?_
  refine xt_if_eq 59 dX7_came_53 rfl (fun q => absurd q (by rw [hrf]; exact hg)) (fun _ => ?_)
  refine il6 dX7_came_56 ?_
  exact xt_iret dX7_came_58 rfl (lb rfl) (lb rfl) ⟨by rw [hrf], ⟨hI, FM_rf⟩, rfl⟩
set_option maxHeartbeats 400000 in
set_option maxRecDepth 100000 in
theorem cr_X7_came_n1 {h : ax_H} {n : Nat} {r : Nat → Int32} {m : Nat} {R : Nat → Nat → Int32} {u : Nat} {im iu : Int32} {Wi : Nat → Nat → Int32} {t : Nat} {tp mn la : Nat → Int32} {it : Nat → Int64} (hI : CB h r m R u im iu Wi t tp mn la it) (s : Nat) (hs : s < 4) (lane : Int32) (hl : 0 ≤ lane ∧ lane ≤ 3) (i y : Int32) (hx : 1 ≤ y ∧ y ≤ 6) (hg : agV mn la s lane i (2 * y) = 0) (hn : 0 ≤ r 5) : ax_C yX7_came cX7_came 9 (some .int) 6 0 0 [.ref 0, .int (nI s), .int lane, .int i, .int y] h n (kE ((-1000002)) (fun h2 => CB h2 r m R u im iu Wi t tp mn la it ∧ FM n h h2) n) := by
  refine ax_C.go RX7 "came" [some (.ref 0), some (.int (nI s)), some (.int lane), some (.int i), some (.int y), none, none, none, none] rfl rfl pn_X7 (lb rfl) rfl (fun l G cy bs => ?_)
  obtain ⟨a0, hS, hA, hW, hRd, hG, hM, hH⟩ := (id hI : CB h _ _ _ _ _ _ _ _ _ _ _ _)
  obtain ⟨sp, pi, pp, nw, bz, hd, dw, k1, hP, ⟨s1, s2, s3, s4, s5, s6⟩, k4⟩ := (id hS : SR h 1 _ _)
  obtain ⟨⟨fs1, o1⟩, o17, ⟨fs6, o115⟩, hu6, hm12⟩ := CB.o hI
  have hbz := s5.b
  have him := hM.b
  obtain ⟨th, l0, z0, f, e0, e1, e2⟩ := hH.2 s hs
  have hth : th = 0 ∨ th = 1 := by rcases e2 with z | z; exact Or.inl z.1; exact Or.inr z.1
  have hrf := rf_ag (h := h) e2 lane i (2 * y)
  refine il1 dX7_came_0 ?_
  refine s_X7_230 dX7_came_1 (cn_X7_isSheet _) ⟨lb rfl, lb rfl, lb rfl, lb rfl⟩ ?_
  refine xt_if_eq 27 dX7_came_4 rfl (fun q => absurd q (fl1 ⟨nI_pos' (by omega), nI_lt (b := 4) hs (by decide)⟩)) (fun _ => ?_)
  refine il2 dX7_came_7 ?_
  refine s_X7_233 dX7_came_8 (cn_X7_isLane _) ⟨lb rfl, lb rfl, lb rfl, lb rfl⟩ ?_
  refine xt_if_eq 27 dX7_came_11 rfl (fun q => absurd q (fl1 (ax4' hl))) (fun _ => ?_)
  refine il4 dX7_came_14 ?_
  refine xt_iconst (1) dX7_came_16 rfl ?_
  refine xt_icmp_lt 27 dX7_came_17 rfl (fun q => absurd q (fun z => by have := hx.1; rw [fb_lt] at z; rw [fb_le] at this; omega)) (fun _ => ?_)
  refine il4 dX7_came_20 ?_
  refine xt_bipush (6) dX7_came_22 rfl ?_
  refine xt_icmp_le 30 dX7_came_24 rfl (fun _ => ?_) (fun q => absurd hx.2 q)
  refine al0 dX7_came_30 ?_
  refine g_X7_41 dX7_came_31 a0 ?_
  refine il1 dX7_came_34 ?_
  refine xt_aald4 (s) hH.1 (by omega) rfl (by decide) rfl dX7_came_35 ?_
  refine as5 dX7_came_36 (by decide) rfl ?_
  refine al5 dX7_came_38 ?_
  refine il2 dX7_came_40 ?_
  refine il3 dX7_came_41 ?_
  refine xt_iconst (2) dX7_came_42 rfl ?_
  refine il4 dX7_came_43 ?_
  refine xt_imul dX7_came_45 ?_
  refine s_X7_236 dX7_came_46 (cn_X4_refusal e0 lane i (2 * y)) e0 ⟨lb rfl, lb rfl, lb rfl, lb rfl⟩ ?_
  refine is6 dX7_came_49 (by decide) rfl ?_
  refine il6 dX7_came_51 ?_
  refine xt_if_eq 59 dX7_came_53 rfl (fun _ => ?_) (fun q => absurd (by rw [hrf]; exact hg) q)
  refine al0 dX7_came_59 ?_
  refine g_X7_12 dX7_came_60 a0 ?_
  refine g_X7_80 dX7_came_63 k1.1 ?_
  refine xt_if_ne 79 dX7_came_66 rfl (fun _ => ?_) (fun q => absurd q (NB1 s5 hn).1)
  refine k_X7_157 dX7_came_79 ?_
  exact xt_iret dX7_came_81 rfl (lb rfl) (lb rfl) ⟨rfl, ⟨hI, FM_rf⟩, rfl⟩
set_option maxHeartbeats 400000 in
set_option maxRecDepth 100000 in
theorem cr_X7_came_n2 {h : ax_H} {n : Nat} {r : Nat → Int32} {m : Nat} {R : Nat → Nat → Int32} {u : Nat} {im iu : Int32} {Wi : Nat → Nat → Int32} {t : Nat} {tp mn la : Nat → Int32} {it : Nat → Int64} (hI : CB h r m R u im iu Wi t tp mn la it) (s : Nat) (hs : s < 4) (lane : Int32) (hl : 0 ≤ lane ∧ lane ≤ 3) (i y : Int32) (hx : 1 ≤ y ∧ y ≤ 6) (hg : agV mn la s lane i (2 * y) = 0) (hn : ¬ 0 ≤ r 5) (hm0 : m = 0) : ax_C yX7_came cX7_came 9 (some .int) 6 0 0 [.ref 0, .int (nI s), .int lane, .int i, .int y] h n (kE ((-1000002)) (fun h2 => CB h2 r m R u im iu Wi t tp mn la it ∧ FM n h h2) n) := by
  refine ax_C.go RX7 "came" [some (.ref 0), some (.int (nI s)), some (.int lane), some (.int i), some (.int y), none, none, none, none] rfl rfl pn_X7 (lb rfl) rfl (fun l G cy bs => ?_)
  obtain ⟨a0, hS, hA, hW, hRd, hG, hM, hH⟩ := (id hI : CB h _ _ _ _ _ _ _ _ _ _ _ _)
  obtain ⟨sp, pi, pp, nw, bz, hd, dw, k1, hP, ⟨s1, s2, s3, s4, s5, s6⟩, k4⟩ := (id hS : SR h 1 _ _)
  obtain ⟨⟨fs1, o1⟩, o17, ⟨fs6, o115⟩, hu6, hm12⟩ := CB.o hI
  have hbz := s5.b
  have him := hM.b
  obtain ⟨th, l0, z0, f, e0, e1, e2⟩ := hH.2 s hs
  have hth : th = 0 ∨ th = 1 := by rcases e2 with z | z; exact Or.inl z.1; exact Or.inr z.1
  have hrf := rf_ag (h := h) e2 lane i (2 * y)
  refine il1 dX7_came_0 ?_
  refine s_X7_230 dX7_came_1 (cn_X7_isSheet _) ⟨lb rfl, lb rfl, lb rfl, lb rfl⟩ ?_
  refine xt_if_eq 27 dX7_came_4 rfl (fun q => absurd q (fl1 ⟨nI_pos' (by omega), nI_lt (b := 4) hs (by decide)⟩)) (fun _ => ?_)
  refine il2 dX7_came_7 ?_
  refine s_X7_233 dX7_came_8 (cn_X7_isLane _) ⟨lb rfl, lb rfl, lb rfl, lb rfl⟩ ?_
  refine xt_if_eq 27 dX7_came_11 rfl (fun q => absurd q (fl1 (ax4' hl))) (fun _ => ?_)
  refine il4 dX7_came_14 ?_
  refine xt_iconst (1) dX7_came_16 rfl ?_
  refine xt_icmp_lt 27 dX7_came_17 rfl (fun q => absurd q (fun z => by have := hx.1; rw [fb_lt] at z; rw [fb_le] at this; omega)) (fun _ => ?_)
  refine il4 dX7_came_20 ?_
  refine xt_bipush (6) dX7_came_22 rfl ?_
  refine xt_icmp_le 30 dX7_came_24 rfl (fun _ => ?_) (fun q => absurd hx.2 q)
  refine al0 dX7_came_30 ?_
  refine g_X7_41 dX7_came_31 a0 ?_
  refine il1 dX7_came_34 ?_
  refine xt_aald4 (s) hH.1 (by omega) rfl (by decide) rfl dX7_came_35 ?_
  refine as5 dX7_came_36 (by decide) rfl ?_
  refine al5 dX7_came_38 ?_
  refine il2 dX7_came_40 ?_
  refine il3 dX7_came_41 ?_
  refine xt_iconst (2) dX7_came_42 rfl ?_
  refine il4 dX7_came_43 ?_
  refine xt_imul dX7_came_45 ?_
  refine s_X7_236 dX7_came_46 (cn_X4_refusal e0 lane i (2 * y)) e0 ⟨lb rfl, lb rfl, lb rfl, lb rfl⟩ ?_
  refine is6 dX7_came_49 (by decide) rfl ?_
  refine il6 dX7_came_51 ?_
  refine xt_if_eq 59 dX7_came_53 rfl (fun _ => ?_) (fun q => absurd (by rw [hrf]; exact hg) q)
  refine al0 dX7_came_59 ?_
  refine g_X7_12 dX7_came_60 a0 ?_
  refine g_X7_80 dX7_came_63 k1.1 ?_
  refine xt_if_ne 79 dX7_came_66 rfl (fun q => absurd (NB0 s5 hn) q) (fun _ => ?_)
  refine al0 dX7_came_69 ?_
  refine g_X7_12 dX7_came_70 a0 ?_
  refine g_X7_68 dX7_came_73 k1.1 ?_
  refine xt_if_ne 82 dX7_came_76 rfl (fun q => absurd (by rw [hm0]; rfl) q) (fun _ => ?_)
  refine k_X7_157 dX7_came_79 ?_
  exact xt_iret dX7_came_81 rfl (lb rfl) (lb rfl) ⟨rfl, ⟨hI, FM_rf⟩, rfl⟩
set_option maxHeartbeats 400000 in
set_option maxRecDepth 100000 in
theorem cr_X7_came {h : ax_H} {n : Nat} {r : Nat → Int32} {m : Nat} {R : Nat → Nat → Int32} {u : Nat} {im iu : Int32} {Wi : Nat → Nat → Int32} {t : Nat} {tp mn la : Nat → Int32} {it : Nat → Int64} (hI : CB h r m R u im iu Wi t tp mn la it) (hn : ¬ 0 ≤ r 5) (hm1 : 1 ≤ m) (s : Nat) (hs : s < 4) (lane : Int32) (hl : 0 ≤ lane ∧ lane ≤ 3) (i N : Nat) (hN : 1 ≤ N ∧ N ≤ 6) (hi : i + 2 * N ≤ 24) (hg : agV mn la s lane (nI i) (nI (2 * N)) = 0) : ax_C yX7_came cX7_came 9 (some .int) 6 0 0 [.ref 0, .int (nI s), .int lane, .int (nI i), .int (nI N)] h n (kE (cmS r it (24 * s + i) N 5) (fun h2 => CB h2 r m R u im iu Wi t tp mn la it ∧ FM n h h2) n) := by
  refine ax_C.go RX7 "came" [some (.ref 0), some (.int (nI s)), some (.int lane), some (.int (nI i)), some (.int (nI N)), none, none, none, none] rfl rfl pn_X7 (lb rfl) rfl (fun l G cy bs => ?_)
  obtain ⟨a0, hS, hA, hW, hRd, hG, hM, hH⟩ := (id hI : CB h _ _ _ _ _ _ _ _ _ _ _ _)
  obtain ⟨sp, pi, pp, nw, bz, hd, dw, k1, hP, ⟨s1, s2, s3, s4, s5, s6⟩, k4⟩ := (id hS : SR h 1 _ _)
  obtain ⟨⟨fs1, o1⟩, o17, ⟨fs6, o115⟩, hu6, hm12⟩ := CB.o hI
  have hbz := s5.b
  have him := hM.b
  have lp : ∀ (d k : Nat), k + d = 5 → ∀ (A : Int32) (h1 : ax_H), CB h1 r m R u im iu Wi t tp mn la it → FM n h h1 → ax_T l G cy bs (ax_rm 6 0 0) RX7 "came" cX7_came 9 (some .int) (kE (cmS r it (24 * s + i) N 5) (fun h2 => CB h2 r m R u im iu Wi t tp mn la it ∧ FM n h h2) n) 0 0 88 [some (.ref 0), some (.int (nI s)), some (.int lane), some (.int (nI i)), some (.int (nI N)), some (.ref (251 + 2 * s)), some (.int A), some (.int (cmS r it (24 * s + i) N k)), some (.int (nI k))] [] h1 n 0 0 := by
    intro d
    induction d with
    | zero =>
      intro k hk A h1 hI1 hF1
      have a01 := hI1.1
      obtain rfl : k = 5 := by omega
      refine il8 dX7_came_88 ?_
      refine xt_iconst (5) dX7_came_90 rfl ?_
      refine xt_icmp_ge 123 dX7_came_91 rfl (fun _ => ?_) (fun q => absurd (by decide) q)
      refine il7 dX7_came_123 ?_
      exact xt_iret dX7_came_125 rfl (lb rfl) (lb rfl) ⟨rfl, ⟨hI1, hF1⟩, rfl⟩
    | succ d ih =>
      intro k hk A h1 hI1 hF1
      have a01 := hI1.1
      obtain ⟨kz, f, e0, e1, hkz, hik, t6, -⟩ := sh_in hI1 hs (by omega) (by omega) hg
      refine il8 dX7_came_88 ?_
      refine xt_iconst (5) dX7_came_90 rfl ?_
      refine xt_icmp_ge 123 dX7_came_91 rfl (fun q => absurd q (nI_ge (b := 5) (by omega) (by decide))) (fun _ => ?_)
      refine al0 dX7_came_94 ?_
      refine il8 dX7_came_95 ?_
      refine al5 dX7_came_97 ?_
      refine il3 dX7_came_99 ?_
      refine il4 dX7_came_100 ?_
      refine sP_X7_239 dX7_came_102 (cr_X7_comesSo hI1 hs e0 e1 hkz t6 (nI k) i N hN hik hn hm1) a01 ⟨lb rfl, lb rfl, lb rfl, lb rfl⟩ ?_
      rintro h2 ⟨hI2, hF2⟩
      refine xt_if_eq 117 dX7_came_105 rfl (fun c105 => ?_) (fun c105 => ?_)
      · refine inc8 (nI (k + 1)) dX7_came_117 (nI_1 _) (by decide) rfl ?_
        refine xt_goto 88 dX7_came_120 rfl ?_
        have e : cmS r it (24 * s + i) N (k + 1) = cmS r it (24 * s + i) N k := by show _ ||| _ = _; rw [if_pos c105, Int32.or_zero]
        rw [← e]
        exact ih (k + 1) (by omega) _ h2 hI2 (FM_tr hF1 hF2)
      · refine il7 dX7_came_108 ?_
        refine xt_iconst (1) dX7_came_110 rfl ?_
        refine il8 dX7_came_111 ?_
        refine xt_ishl dX7_came_113 ?_
        refine xt_ior dX7_came_114 ?_
        refine is7 dX7_came_115 (by decide) rfl ?_
        refine inc8 (nI (k + 1)) dX7_came_117 (nI_1 _) (by decide) rfl ?_
        refine xt_goto 88 dX7_came_120 rfl ?_
        have e : cmS r it (24 * s + i) N (k + 1) = cmS r it (24 * s + i) N k ||| ((1 : Int32) <<< (nI k &&& 31)) := by show _ ||| _ = _; rw [if_neg c105]
        rw [← e]
        exact ih (k + 1) (by omega) _ h2 hI2 (FM_tr hF1 hF2)
  obtain ⟨kz0, f0, e0, e1, -, -, -, -⟩ := sh_in hI hs (by omega) (by omega) hg
  have hrf : rfV 1 lane (nI kz0) lane (nI i) (nI (2 * N)) = 0 := by
    obtain ⟨th, l0, z0, f, e02, e12, e22⟩ := hH.2 s hs
    have e : some (eSh (251 + 2 * s) th l0 z0) = some (eSh (251 + 2 * s) 1 lane (nI kz0)) := e02.symm.trans e0
    simp only [Option.some.injEq, Sum.inr.injEq, Prod.mk.injEq, List.cons.injEq, Value.int.injEq] at e
    obtain ⟨-, -, rfl, rfl, rfl, -⟩ := e
    rw [rf_ag (h := h) e22]; exact hg
  refine il1 dX7_came_0 ?_
  refine s_X7_230 dX7_came_1 (cn_X7_isSheet _) ⟨lb rfl, lb rfl, lb rfl, lb rfl⟩ ?_
  refine xt_if_eq 27 dX7_came_4 rfl (fun q => absurd q (fl1 ⟨nI_pos' (by omega), nI_lt (b := 4) hs (by decide)⟩)) (fun _ => ?_)
  refine il2 dX7_came_7 ?_
  refine s_X7_233 dX7_came_8 (cn_X7_isLane _) ⟨lb rfl, lb rfl, lb rfl, lb rfl⟩ ?_
  refine xt_if_eq 27 dX7_came_11 rfl (fun q => absurd q (fl1 (ax4' hl))) (fun _ => ?_)
  refine il4 dX7_came_14 ?_
  refine xt_iconst (1) dX7_came_16 rfl ?_
  refine xt_icmp_lt 27 dX7_came_17 rfl (fun q => absurd q (nI_nlt (b := 1) (by omega) (by omega))) (fun _ => ?_)
  refine il4 dX7_came_20 ?_
  refine xt_bipush (6) dX7_came_22 rfl ?_
  refine xt_icmp_le 30 dX7_came_24 rfl (fun _ => ?_) (fun q => absurd (nI_le (b := 6) (by omega) (by decide)) q)
  refine al0 dX7_came_30 ?_
  refine g_X7_41 dX7_came_31 a0 ?_
  refine il1 dX7_came_34 ?_
  refine xt_aald4 (s) hH.1 (by omega) rfl (by decide) rfl dX7_came_35 ?_
  refine as5 dX7_came_36 (by decide) rfl ?_
  refine al5 dX7_came_38 ?_
  refine il2 dX7_came_40 ?_
  refine il3 dX7_came_41 ?_
  refine xt_iconst (2) dX7_came_42 rfl ?_
  refine il4 dX7_came_43 ?_
  refine xt_imul dX7_came_45 ?_
  refine xt_eqv (nI (2 * N)) ((ne_mul (a := 2) (b := N) rfl rfl).trans (congrArg nI (by omega))) ?_
  refine s_X7_236 dX7_came_46 (cn_X4_refusal e0 lane (nI i) (nI (2 * N))) e0 ⟨lb rfl, lb rfl, lb rfl, lb rfl⟩ ?_
  refine is6 dX7_came_49 (by decide) rfl ?_
  refine il6 dX7_came_51 ?_
  refine xt_if_eq 59 dX7_came_53 rfl (fun _ => ?_) (fun q => absurd hrf q)
  refine al0 dX7_came_59 ?_
  refine g_X7_12 dX7_came_60 a0 ?_
  refine g_X7_80 dX7_came_63 k1.1 ?_
  refine xt_if_ne 79 dX7_came_66 rfl (fun q => absurd (NB0 s5 hn) q) (fun _ => ?_)
  refine al0 dX7_came_69 ?_
  refine g_X7_12 dX7_came_70 a0 ?_
  refine g_X7_68 dX7_came_73 k1.1 ?_
  refine xt_if_ne 82 dX7_came_76 rfl (fun _ => ?_) (fun q => absurd q (nI_ne0 (by omega) (by omega)))
  refine xt_iconst (0) dX7_came_82 rfl ?_
  refine is7 dX7_came_83 (by decide) rfl ?_
  refine xt_iconst (0) dX7_came_85 rfl ?_
  refine is8 dX7_came_86 (by decide) rfl ?_
  exact lp 5 0 (by omega) _ h hI FM_rf
