theorem LN_nx {r : Nat → Int32} {m m2 L : Nat} (hR : RI r m) (hf : ¬ rFlag r = 0) (hR2 : RI (nx r) m2) (hL : LN r m = L + 1) : LN (nx r) m2 = L := by
  obtain ⟨m3, -, q1, q2⟩ := RI_step hR hf
  have : m3 = m2 := (nI_eq (by have := q1.1.2.1; omega) (by have := hR2.1.2.1; omega)).mp (q1.1.1.symm.trans hR2.1.1)
  rw [← this]; omega
theorem nxN_ge {m : Nat} : ∀ (L : Nat) (r : Nat → Int32) (m1 : Nat), RI r m1 → LN r m1 = L → ∀ k, L ≤ k → nxN k r = nxN L r
  | 0, r, m1, hR, hL, k, _ => by
    have hf := (LN_flag hR).mpr hL
    rw [nxN_fix (nx_0 hf).1, nxN_fix (nx_0 hf).1]
  | L + 1, r, m1, hR, hL, k, hk => by
    obtain ⟨k, rfl⟩ : ∃ j, k = j + 1 := ⟨k - 1, by omega⟩
    obtain ⟨m2, -, q1, q2⟩ := RI_step hR (fun z => by have := (LN_flag hR).mp z; omega)
    show nxN k (nx r) = nxN L (nx r)
    exact nxN_ge (m := m) L (nx r) m2 q1 (by omega) k (by omega)
theorem nxN_min {r : Nat → Int32} {m : Nat} (hR : RI r m) (N : Nat) : nxN (min N 1287) r = nxN N r := by
  by_cases h : N ≤ 1287
  · rw [Nat.min_eq_left h]
  · rw [Nat.min_eq_right (by omega), nxN_ge (m := m) _ r m hR rfl 1287 (LN_le hR), nxN_ge (m := m) _ r m hR rfl N (by have := LN_le hR; omega)]
theorem mn_nI {a b : Nat} (ha : a < 2 ^ 31) (hb : b < 2 ^ 31) : mn (nI a) (nI b) = nI (min a b) := by
  unfold mn
  by_cases h : b < a
  · rw [if_pos (nI_lt h ha), Nat.min_eq_right (by omega)]
  · rw [if_neg (nI_nlt (by omega) hb), Nat.min_eq_left (by omega)]
set_option maxHeartbeats 400000 in
set_option maxRecDepth 100000 in
theorem cr_X7_where_b1 {h : ax_H} {n : Nat} {r : Nat → Int32} {m : Nat} {R : Nat → Nat → Int32} {u : Nat} {im iu : Int32} {Wi : Nat → Nat → Int32} {t : Nat} {tp mn la : Nat → Int32} {it : Nat → Int64} (hI : CB h r m R u im iu Wi t tp mn la it) (x y : Int32) (hx : x < 0) : ax_C yX7_where cX7_where 5 (some .int) 5 0 0 [.ref 0, .int x, .int y] h n (kE ((-1000001)) (fun h2 => CB h2 r m R u im iu Wi t tp mn la it ∧ FM n h h2) n) := by
  refine ax_C.go RX7 "where" [some (.ref 0), some (.int x), some (.int y), none, none] rfl rfl pn_X7 (lb rfl) rfl (fun l G cy bs => ?_)
  obtain ⟨a0, hS, hA, hW, hRd, hG, hM, hH⟩ := (id hI : CB h _ _ _ _ _ _ _ _ _ _ _ _)
  obtain ⟨sp, pi, pp, nw, bz, hd, dw, k1, hP, ⟨s1, s2, s3, s4, s5, s6⟩, k4⟩ := (id hS : SR h 1 _ _)
  obtain ⟨⟨fs1, o1⟩, o17, ⟨fs6, o115⟩, hu6, hm12⟩ := CB.o hI
  have hbz := s5.b
  have him := hM.b
  refine il1 dX7_where_0 ?_
  refine xt_if_lt 11 dX7_where_1 rfl (fun _ => ?_) (fun q => absurd hx q)
  refine k_X7_64 dX7_where_11 ?_
  exact xt_iret dX7_where_13 rfl (lb rfl) (lb rfl) ⟨rfl, ⟨hI, FM_rf⟩, rfl⟩
set_option maxHeartbeats 400000 in
set_option maxRecDepth 100000 in
theorem cr_X7_where_b2 {h : ax_H} {n : Nat} {r : Nat → Int32} {m : Nat} {R : Nat → Nat → Int32} {u : Nat} {im iu : Int32} {Wi : Nat → Nat → Int32} {t : Nat} {tp mn la : Nat → Int32} {it : Nat → Int64} (hI : CB h r m R u im iu Wi t tp mn la it) (x y : Int32) (hx : ¬ x < 0) (hy : ¬ (0 ≤ y ∧ y ≤ 2)) : ax_C yX7_where cX7_where 5 (some .int) 5 0 0 [.ref 0, .int x, .int y] h n (kE ((-1000001)) (fun h2 => CB h2 r m R u im iu Wi t tp mn la it ∧ FM n h h2) n) := by
  refine ax_C.go RX7 "where" [some (.ref 0), some (.int x), some (.int y), none, none] rfl rfl pn_X7 (lb rfl) rfl (fun l G cy bs => ?_)
  obtain ⟨a0, hS, hA, hW, hRd, hG, hM, hH⟩ := (id hI : CB h _ _ _ _ _ _ _ _ _ _ _ _)
  obtain ⟨sp, pi, pp, nw, bz, hd, dw, k1, hP, ⟨s1, s2, s3, s4, s5, s6⟩, k4⟩ := (id hS : SR h 1 _ _)
  obtain ⟨⟨fs1, o1⟩, o17, ⟨fs6, o115⟩, hu6, hm12⟩ := CB.o hI
  have hbz := s5.b
  have him := hM.b
  refine il1 dX7_where_0 ?_
  refine xt_if_lt 11 dX7_where_1 rfl (fun q => absurd q hx) (fun _ => ?_)
  refine il2 dX7_where_4 ?_
  refine s_X7_60 dX7_where_5 (cn_X7_isAxis _) ⟨lb rfl, lb rfl, lb rfl, lb rfl⟩ ?_
  refine xt_if_ne 14 dX7_where_8 rfl (fun q => absurd (fl0 (ax3 hy)) q) (fun _ => ?_)
  refine k_X7_64 dX7_where_11 ?_
  exact xt_iret dX7_where_13 rfl (lb rfl) (lb rfl) ⟨rfl, ⟨hI, FM_rf⟩, rfl⟩
set_option maxHeartbeats 400000 in
set_option maxRecDepth 100000 in
theorem cr_X7_where {h : ax_H} {n : Nat} {r : Nat → Int32} {m : Nat} {R : Nat → Nat → Int32} {u : Nat} {im iu : Int32} {Wi : Nat → Nat → Int32} {t : Nat} {tp mn la : Nat → Int32} {it : Nat → Int64} (hI : CB h r m R u im iu Wi t tp mn la it) (N a : Nat) (hN : N < 2 ^ 31) (ha : a < 3) : ax_C yX7_where cX7_where 5 (some .int) 5 0 0 [.ref 0, .int (nI N), .int (nI a)] h n (kE (nxN N r a) (fun h2 => CB h2 r m R u im iu Wi t tp mn la it ∧ FM n h h2) n) := by
  refine ax_C.go RX7 "where" [some (.ref 0), some (.int (nI N)), some (.int (nI a)), none, none] rfl rfl pn_X7 (lb rfl) rfl (fun l G cy bs => ?_)
  obtain ⟨a0, hS, hA, hW, hRd, hG, hM, hH⟩ := (id hI : CB h _ _ _ _ _ _ _ _ _ _ _ _)
  obtain ⟨sp, pi, pp, nw, bz, hd, dw, k1, hP, ⟨s1, s2, s3, s4, s5, s6⟩, k4⟩ := (id hS : SR h 1 _ _)
  obtain ⟨⟨fs1, o1⟩, o17, ⟨fs6, o115⟩, hu6, hm12⟩ := CB.o hI
  have hbz := s5.b
  have him := hM.b
  have lp : ∀ (d k : Nat), k + d = min N 1287 → ∀ (h1 : ax_H) (r1 : Nat → Int32) (t1 : Nat) (f1 g1 : Nat → Int32), fr 115 4 h h1 → WR h1 115 1 r m r1 t1 f1 g1 → nxN d r1 = nxN N r → ax_T l G cy bs (ax_rm 5 0 0) RX7 "where" cX7_where 5 (some .int) (kE (nxN N r a) (fun h2 => CB h2 r m R u im iu Wi t tp mn la it ∧ FM n h h2) n) 0 0 32 [some (.ref 0), some (.int (nI N)), some (.int (nI a)), some (.int (nI (min N 1287))), some (.int (nI k))] [] h1 n 0 0 := by
    intro d
    induction d with
    | zero =>
      intro k hk h1 r1 t1 f1 g1 hF1 w1 hr
      obtain ⟨q1, bz1, wf1, ws1, wj1, wb1, wr1⟩ := (id w1 : WR h1 115 1 _ _ _ _ _ _)
      have a01 : h1 0 = some (eX7 im) := by rw [hF1 _ (by omega)]; exact a0
      have hr : r1 = nxN N r := hr
      refine il4 dX7_where_32 ?_
      refine il3 dX7_where_34 ?_
      refine xt_icmp_ge 57 dX7_where_35 rfl (fun _ => ?_) (fun q => absurd (nI_le (by omega) (by omega)) q)
      refine al0 dX7_where_57 ?_
      refine g_X7_28 dX7_where_58 a01 ?_
      refine g_X7_187 dX7_where_61 wf1.1 ?_
      refine il2 dX7_where_64 ?_
      refine xt_iald (a) wf1.2.2.1 (by omega) rfl (by decide) dX7_where_65 ?_
      exact xt_iret dX7_where_66 rfl (lb rfl) (lb rfl) ⟨by rw [wj1 a ha]; exact congrArg some (congrArg Value.int (congrFun hr a)), ⟨hI.wk w1.wx hF1, FM_fr (by omega) hF1⟩, rfl⟩
    | succ d ih =>
      intro k hk h1 r1 t1 f1 g1 hF1 w1 hr
      obtain ⟨q1, bz1, wf1, ws1, wj1, wb1, wr1⟩ := (id w1 : WR h1 115 1 _ _ _ _ _ _)
      have a01 : h1 0 = some (eX7 im) := by rw [hF1 _ (by omega)]; exact a0
      refine il4 dX7_where_32 ?_
      refine il3 dX7_where_34 ?_
      refine xt_icmp_ge 57 dX7_where_35 rfl (fun q => absurd q (nI_ge (by omega) (by omega))) (fun _ => ?_)
      refine al0 dX7_where_38 ?_
      refine g_X7_28 dX7_where_39 a01 ?_
      refine sP_X7_184 dX7_where_42 (cr_X6_advance w1 (by omega)) wf1.1 ⟨lb rfl, lb rfl, lb rfl, lb rfl⟩ ?_
      rintro h2 ⟨⟨t2, f2, g2, w2, gm2⟩, hf2⟩
      have hF2 : fr 115 4 h h2 := fun j hj => (hf2 j hj).trans (hF1 j hj)
      obtain ⟨q2, bz2, wf2, ws2, wj2, wb2, wr2⟩ := (id w2 : WR h2 115 1 _ _ _ _ _ _)
      have a02 : h2 0 = some (eX7 im) := by rw [hF2 _ (by omega)]; exact a0
      refine xt_if_ne 51 dX7_where_45 rfl (fun c45 => ?_) (fun c45 => ?_)
      · refine inc4 (nI (k + 1)) dX7_where_51 (nI_1 _) (by decide) rfl ?_
        refine xt_goto 32 dX7_where_54 rfl ?_
        exact ih (k + 1) (by omega) h2 (nx r1) t2 f2 g2 hF2 w2 hr
      · rw [nxN_fix (nx_0 c45).1] at hr
        rw [(nx_0 c45).1] at w2 wj2
        refine xt_goto 57 dX7_where_48 rfl ?_
        refine al0 dX7_where_57 ?_
        refine g_X7_28 dX7_where_58 a02 ?_
        refine g_X7_187 dX7_where_61 wf2.1 ?_
        refine il2 dX7_where_64 ?_
        refine xt_iald (a) wf2.2.2.1 (by omega) rfl (by decide) dX7_where_65 ?_
        exact xt_iret dX7_where_66 rfl (lb rfl) (lb rfl) ⟨by rw [wj2 a ha]; exact congrArg some (congrArg Value.int (congrFun hr a)), ⟨hI.wk w2.wx hF2, FM_fr (by omega) hF2⟩, rfl⟩
  refine il1 dX7_where_0 ?_
  refine xt_if_lt 11 dX7_where_1 rfl (fun q => absurd q (nI_pos (by omega))) (fun _ => ?_)
  refine il2 dX7_where_4 ?_
  refine s_X7_60 dX7_where_5 (cn_X7_isAxis _) ⟨lb rfl, lb rfl, lb rfl, lb rfl⟩ ?_
  refine xt_if_ne 14 dX7_where_8 rfl (fun _ => ?_) (fun q => absurd q (fl1 ⟨nI_pos' (by omega), nI_lt (b := 3) ha (by decide)⟩))
  refine al0 dX7_where_14 ?_
  refine g_X7_28 dX7_where_15 a0 ?_
  refine sP_X7_175 dX7_where_18 (cr_X6_begin hW hS (by omega)) o115 ⟨lb rfl, lb rfl, lb rfl, lb rfl⟩ ?_
  rintro h1 ⟨⟨f1, g1, w1⟩, hF1⟩
  obtain ⟨q1, bz1, wf1, ws1, wj1, wb1, wr1⟩ := (id w1 : WR h1 115 1 _ _ _ _ _ _)
  have a01 : h1 0 = some (eX7 im) := by rw [hF1 _ (by omega)]; exact a0
  refine il1 dX7_where_21 ?_
  refine xt_sipush (1287) dX7_where_22 rfl ?_
  refine s_X7_178 dX7_where_25 ⟨lb rfl, lb rfl, lb rfl, lb rfl⟩ ?_
  refine xt_eqv (nI (min N 1287)) (mn_nI (b := 1287) (by omega) (by decide)) ?_
  refine is3 dX7_where_28 (by decide) rfl ?_
  refine xt_iconst (0) dX7_where_29 rfl ?_
  refine is4 dX7_where_30 (by decide) rfl ?_
  exact lp (min N 1287) 0 (by omega) h1 r 0 f1 g1 hF1 w1 (nxN_min k4 N)
set_option maxHeartbeats 400000 in
set_option maxRecDepth 100000 in
theorem cr_X7_pulses_b1 {h : ax_H} {n : Nat} {r : Nat → Int32} {m : Nat} {R : Nat → Nat → Int32} {u : Nat} {im iu : Int32} {Wi : Nat → Nat → Int32} {t : Nat} {tp mn la : Nat → Int32} {it : Nat → Int64} (hI : CB h r m R u im iu Wi t tp mn la it) (x y : Int32) (hx : ¬ (0 ≤ x ∧ x ≤ 2)) : ax_C yX7_pulses cX7_pulses 7 (some .int) 5 0 0 [.ref 0, .int x, .int y] h n (kE ((-1000001)) (fun h2 => CB h2 r m R u im iu Wi t tp mn la it ∧ FM n h h2) n) := by
  refine ax_C.go RX7 "pulses" [some (.ref 0), some (.int x), some (.int y), none, none, none, none] rfl rfl pn_X7 (lb rfl) rfl (fun l G cy bs => ?_)
  obtain ⟨a0, hS, hA, hW, hRd, hG, hM, hH⟩ := (id hI : CB h _ _ _ _ _ _ _ _ _ _ _ _)
  obtain ⟨sp, pi, pp, nw, bz, hd, dw, k1, hP, ⟨s1, s2, s3, s4, s5, s6⟩, k4⟩ := (id hS : SR h 1 _ _)
  obtain ⟨⟨fs1, o1⟩, o17, ⟨fs6, o115⟩, hu6, hm12⟩ := CB.o hI
  have hbz := s5.b
  have him := hM.b
  refine il1 dX7_pulses_0 ?_
  refine s_X7_60 dX7_pulses_1 (cn_X7_isAxis _) ⟨lb rfl, lb rfl, lb rfl, lb rfl⟩ ?_
  refine xt_if_eq 14 dX7_pulses_4 rfl (fun _ => ?_) (fun q => absurd (fl0 (ax3 hx)) q)
  refine k_X7_64 dX7_pulses_14 ?_
  exact xt_iret dX7_pulses_16 rfl (lb rfl) (lb rfl) ⟨rfl, ⟨hI, FM_rf⟩, rfl⟩
theorem ax3' {x : Int32} (h : 0 ≤ x ∧ x ≤ 2) : 0 ≤ x ∧ x < 3 := by
  simp only [fb_le, fb_lt, ti_0, ti_2, ti_3] at *; omega
set_option maxHeartbeats 400000 in
set_option maxRecDepth 100000 in
theorem cr_X7_pulses_b2 {h : ax_H} {n : Nat} {r : Nat → Int32} {m : Nat} {R : Nat → Nat → Int32} {u : Nat} {im iu : Int32} {Wi : Nat → Nat → Int32} {t : Nat} {tp mn la : Nat → Int32} {it : Nat → Int64} (hI : CB h r m R u im iu Wi t tp mn la it) (x y : Int32) (hx : 0 ≤ x ∧ x ≤ 2) (hy : ¬ (0 ≤ y ∧ y ≤ 1)) : ax_C yX7_pulses cX7_pulses 7 (some .int) 5 0 0 [.ref 0, .int x, .int y] h n (kE ((-1000001)) (fun h2 => CB h2 r m R u im iu Wi t tp mn la it ∧ FM n h h2) n) := by
  refine ax_C.go RX7 "pulses" [some (.ref 0), some (.int x), some (.int y), none, none, none, none] rfl rfl pn_X7 (lb rfl) rfl (fun l G cy bs => ?_)
  obtain ⟨a0, hS, hA, hW, hRd, hG, hM, hH⟩ := (id hI : CB h _ _ _ _ _ _ _ _ _ _ _ _)
  obtain ⟨sp, pi, pp, nw, bz, hd, dw, k1, hP, ⟨s1, s2, s3, s4, s5, s6⟩, k4⟩ := (id hS : SR h 1 _ _)
  obtain ⟨⟨fs1, o1⟩, o17, ⟨fs6, o115⟩, hu6, hm12⟩ := CB.o hI
  have hbz := s5.b
  have him := hM.b
  refine il1 dX7_pulses_0 ?_
  refine s_X7_60 dX7_pulses_1 (cn_X7_isAxis _) ⟨lb rfl, lb rfl, lb rfl, lb rfl⟩ ?_
  refine xt_if_eq 14 dX7_pulses_4 rfl (fun q => absurd q (fl1 (ax3' hx))) (fun _ => ?_)
  refine il2 dX7_pulses_7 ?_
  refine s_X7_188 dX7_pulses_8 (cn_X7_isSide _) ⟨lb rfl, lb rfl, lb rfl, lb rfl⟩ ?_
  refine xt_if_ne 17 dX7_pulses_11 rfl (fun q => absurd (fl0 (fun z => hy (sd.mp z))) q) (fun _ => ?_)
  refine k_X7_64 dX7_pulses_14 ?_
  exact xt_iret dX7_pulses_16 rfl (lb rfl) (lb rfl) ⟨rfl, ⟨hI, FM_rf⟩, rfl⟩
theorem pul_n {x s1 s2 s3 : Int32} (hx : ¬ x = 0) (h3 : 0 ≤ s3) : pulS x (s1, s2, s3) = (s1 + 1, 0, s3) := by
  unfold pulS
  simp only [if_neg hx, if_pos h3]
theorem pul_z {x s1 s2 s3 : Int32} (hx : x = 0) : pulS x (s1, s2, s3) = (s1, s2 + 1, mx s3 (s2 + 1)) := by
  unfold pulS mx
  simp only [if_pos hx, Int32.add_zero]
  by_cases h : s2 + 1 ≤ s3
  · rw [if_pos h, if_neg (by rw [fb_lt]; rw [fb_le] at h; omega)]
  · rw [if_neg h, if_pos (by rw [fb_lt]; rw [fb_le] at h; omega)]
theorem mx_0 {x y : Int32} (h : 0 ≤ x) : 0 ≤ mx x y := by
  unfold mx; split
  · rename_i q; rw [fb_lt] at q; rw [fb_le] at h ⊢; omega
  · exact h
set_option maxHeartbeats 400000 in
set_option maxRecDepth 100000 in
theorem cr_X7_pulses {h : ax_H} {n : Nat} {r : Nat → Int32} {m : Nat} {R : Nat → Nat → Int32} {u : Nat} {im iu : Int32} {Wi : Nat → Nat → Int32} {t : Nat} {tp mn la : Nat → Int32} {it : Nat → Int64} (hI : CB h r m R u im iu Wi t tp mn la it) (a : Nat) (ha : a < 3) (wh : Int32) (hw : 0 ≤ wh ∧ wh ≤ 1) : ax_C yX7_pulses cX7_pulses 7 (some .int) 5 0 0 [.ref 0, .int (nI a), .int wh] h n (kE (if wh = 0 then (pulF a (LN r m) r (0, 0, 0)).1 else (pulF a (LN r m) r (0, 0, 0)).2.2) (fun h2 => CB h2 r m R u im iu Wi t tp mn la it ∧ FM n h h2) n) := by
  refine ax_C.go RX7 "pulses" [some (.ref 0), some (.int (nI a)), some (.int wh), none, none, none, none] rfl rfl pn_X7 (lb rfl) rfl (fun l G cy bs => ?_)
  obtain ⟨a0, hS, hA, hW, hRd, hG, hM, hH⟩ := (id hI : CB h _ _ _ _ _ _ _ _ _ _ _ _)
  obtain ⟨sp, pi, pp, nw, bz, hd, dw, k1, hP, ⟨s1, s2, s3, s4, s5, s6⟩, k4⟩ := (id hS : SR h 1 _ _)
  obtain ⟨⟨fs1, o1⟩, o17, ⟨fs6, o115⟩, hu6, hm12⟩ := CB.o hI
  have hbz := s5.b
  have him := hM.b
  have hLN := LN_le k4
  have lp : ∀ (L k : Nat), k + L = LN r m → ∀ (s1 s2 s3 : Int32) (h1 : ax_H) (r1 : Nat → Int32) (t1 : Nat) (f1 g1 : Nat → Int32), fr 115 4 h h1 → WR h1 115 1 r m r1 t1 f1 g1 → LN r1 (m - t1) = L → (pulF a L r1 (s1, s2, s3) = pulF a (LN r m) r (0, 0, 0) ∧ 0 ≤ s3) → ax_T l G cy bs (ax_rm 5 0 0) RX7 "pulses" cX7_pulses 7 (some .int) (kE (if wh = 0 then (pulF a (LN r m) r (0, 0, 0)).1 else (pulF a (LN r m) r (0, 0, 0)).2.2) (fun h2 => CB h2 r m R u im iu Wi t tp mn la it ∧ FM n h h2) n) 0 0 35 [some (.ref 0), some (.int (nI a)), some (.int wh), some (.int s1), some (.int s2), some (.int s3), some (.int (nI k))] [] h1 n 0 0 := by
    intro L
    induction L with
    | zero =>
      intro k hk s1 s2 s3  h1 r1 t1 f1 g1 hF1 w1 hL hr
      obtain ⟨q1, bz1, wf1, ws1, wj1, wb1, wr1⟩ := (id w1 : WR h1 115 1 _ _ _ _ _ _)
      have a01 : h1 0 = some (eX7 im) := by rw [hF1 _ (by omega)]; exact a0
      have hfl : rFlag r1 = 0 := (LN_flag wr1.2.1).mpr hL
      refine il6 dX7_pulses_35 ?_
      refine xt_sipush (1287) dX7_pulses_37 rfl ?_
      refine xt_icmp_ge 92 dX7_pulses_40 rfl (fun c40 => ?_) (fun c40 => ?_)
      · refine il2 dX7_pulses_92 ?_
        apply xj_if_ne 100 dX7_pulses_93 rfl
        · intro k93
          refine ⟨fun c93 => ?_, fun c93 => ?_⟩
          · refine il5 dX7_pulses_100 ?_
            exact xt_in1 k93 c93
          · refine il3 dX7_pulses_96 ?_
            refine xt_goto 102 dX7_pulses_97 rfl ?_
            exact xt_in2 k93 c93
        · skip
          exact xt_iret dX7_pulses_102 rfl (lb rfl) (lb rfl) ⟨by rw [← hr.1]; rfl, ⟨hI.wk w1.wx hF1, FM_fr (by omega) hF1⟩, rfl⟩
      · refine al0 dX7_pulses_43 ?_
        refine g_X7_28 dX7_pulses_44 a01 ?_
        refine sP_X7_184 dX7_pulses_47 (cr_X6_advance w1 (by omega)) wf1.1 ⟨lb rfl, lb rfl, lb rfl, lb rfl⟩ ?_
        rintro h2 ⟨⟨t2, f2, g2, w2, gm2⟩, hf2⟩
        have hF2 : fr 115 4 h h2 := fun j hj => (hf2 j hj).trans (hF1 j hj)
        obtain ⟨q2, bz2, wf2, ws2, wj2, wb2, wr2⟩ := (id w2 : WR h2 115 1 _ _ _ _ _ _)
        have a02 : h2 0 = some (eX7 im) := by rw [hF2 _ (by omega)]; exact a0
        refine xt_if_eq 92 dX7_pulses_50 rfl (fun _ => ?_) (fun q => absurd hfl q)
        refine il2 dX7_pulses_92 ?_
        apply xj_if_ne 100 dX7_pulses_93 rfl
        · intro k93
          refine ⟨fun c93 => ?_, fun c93 => ?_⟩
          · refine il5 dX7_pulses_100 ?_
            exact xt_in1 k93 c93
          · refine il3 dX7_pulses_96 ?_
            refine xt_goto 102 dX7_pulses_97 rfl ?_
            exact xt_in2 k93 c93
        · skip
          exact xt_iret dX7_pulses_102 rfl (lb rfl) (lb rfl) ⟨by rw [← hr.1]; rfl, ⟨hI.wk w2.wx hF2, FM_fr (by omega) hF2⟩, rfl⟩
    | succ L ih =>
      intro k hk s1 s2 s3  h1 r1 t1 f1 g1 hF1 w1 hL hr
      obtain ⟨q1, bz1, wf1, ws1, wj1, wb1, wr1⟩ := (id w1 : WR h1 115 1 _ _ _ _ _ _)
      have a01 : h1 0 = some (eX7 im) := by rw [hF1 _ (by omega)]; exact a0
      have hfl : ¬ rFlag r1 = 0 := fun z => by have := (LN_flag wr1.2.1).mp z; omega
      refine il6 dX7_pulses_35 ?_
      refine xt_sipush (1287) dX7_pulses_37 rfl ?_
      refine xt_icmp_ge 92 dX7_pulses_40 rfl (fun q => absurd q (nI_ge (a := k) (b := 1287) (by omega) (by decide))) (fun _ => ?_)
      refine al0 dX7_pulses_43 ?_
      refine g_X7_28 dX7_pulses_44 a01 ?_
      refine sP_X7_184 dX7_pulses_47 (cr_X6_advance w1 (by omega)) wf1.1 ⟨lb rfl, lb rfl, lb rfl, lb rfl⟩ ?_
      rintro h2 ⟨⟨t2, f2, g2, w2, gm2⟩, hf2⟩
      have hF2 : fr 115 4 h h2 := fun j hj => (hf2 j hj).trans (hF1 j hj)
      obtain ⟨q2, bz2, wf2, ws2, wj2, wb2, wr2⟩ := (id w2 : WR h2 115 1 _ _ _ _ _ _)
      have a02 : h2 0 = some (eX7 im) := by rw [hF2 _ (by omega)]; exact a0
      have hL2 : LN (nx r1) (m - t2) = L := LN_nx wr1.2.1 hfl wr2.2.1 hL
      have hgm := gm2 hfl
      refine xt_if_eq 92 dX7_pulses_50 rfl (fun q => absurd q hfl) (fun _ => ?_)
      refine al0 dX7_pulses_53 ?_
      refine g_X7_28 dX7_pulses_54 a02 ?_
      refine g_X7_191 dX7_pulses_57 wf2.1 ?_
      refine il1 dX7_pulses_60 ?_
      refine xt_iald (a) wf2.2.2.2 (by omega) rfl (by decide) dX7_pulses_61 ?_
      refine xt_if_eq 74 dX7_pulses_62 rfl (fun c62 => ?_) (fun c62 => ?_)
      · refine inc4 _ dX7_pulses_74 rfl (by decide) rfl ?_
        refine il5 dX7_pulses_77 ?_
        refine il4 dX7_pulses_79 ?_
        refine s_X7_194 dX7_pulses_81 ⟨lb rfl, lb rfl, lb rfl, lb rfl⟩ ?_
        refine is5 dX7_pulses_84 (by decide) rfl ?_
        refine inc6 (nI (k + 1)) dX7_pulses_86 (nI_1 _) (by decide) rfl ?_
        refine xt_goto 35 dX7_pulses_89 rfl ?_
        exact ih (k + 1) (by omega) _ _ _ h2 (nx r1) t2 f2 g2 hF2 w2 hL2 ⟨by rw [← hr.1]; show _ = pulF a L (nx r1) (pulS (mo r1 a) (s1, s2, s3)); rw [pul_z (by rw [← hgm a ha]; exact c62)]; rfl, mx_0 hr.2⟩
      · refine inc3 _ dX7_pulses_65 rfl (by decide) rfl ?_
        refine xt_iconst (0) dX7_pulses_68 rfl ?_
        refine is4 dX7_pulses_69 (by decide) rfl ?_
        refine xt_goto 86 dX7_pulses_71 rfl ?_
        refine inc6 (nI (k + 1)) dX7_pulses_86 (nI_1 _) (by decide) rfl ?_
        refine xt_goto 35 dX7_pulses_89 rfl ?_
        exact ih (k + 1) (by omega) _ _ _ h2 (nx r1) t2 f2 g2 hF2 w2 hL2 ⟨by rw [← hr.1]; show _ = pulF a L (nx r1) (pulS (mo r1 a) (s1, s2, s3)); rw [pul_n (by rw [← hgm a ha]; exact c62) hr.2]; rfl, hr.2⟩
  refine il1 dX7_pulses_0 ?_
  refine s_X7_60 dX7_pulses_1 (cn_X7_isAxis _) ⟨lb rfl, lb rfl, lb rfl, lb rfl⟩ ?_
  refine xt_if_eq 14 dX7_pulses_4 rfl (fun q => absurd q (fl1 ⟨nI_pos' (by omega), nI_lt (b := 3) ha (by decide)⟩)) (fun _ => ?_)
  refine il2 dX7_pulses_7 ?_
  refine s_X7_188 dX7_pulses_8 (cn_X7_isSide _) ⟨lb rfl, lb rfl, lb rfl, lb rfl⟩ ?_
  refine xt_if_ne 17 dX7_pulses_11 rfl (fun _ => ?_) (fun q => absurd q (fl1 (sd.mpr hw)))
  refine xt_iconst (0) dX7_pulses_17 rfl ?_
  refine is3 dX7_pulses_18 (by decide) rfl ?_
  refine xt_iconst (0) dX7_pulses_19 rfl ?_
  refine is4 dX7_pulses_20 (by decide) rfl ?_
  refine xt_iconst (0) dX7_pulses_22 rfl ?_
  refine is5 dX7_pulses_23 (by decide) rfl ?_
  refine al0 dX7_pulses_25 ?_
  refine g_X7_28 dX7_pulses_26 a0 ?_
  refine sP_X7_175 dX7_pulses_29 (cr_X6_begin hW hS (by omega)) o115 ⟨lb rfl, lb rfl, lb rfl, lb rfl⟩ ?_
  rintro h1 ⟨⟨f1, g1, w1⟩, hF1⟩
  obtain ⟨q1, bz1, wf1, ws1, wj1, wb1, wr1⟩ := (id w1 : WR h1 115 1 _ _ _ _ _ _)
  have a01 : h1 0 = some (eX7 im) := by rw [hF1 _ (by omega)]; exact a0
  refine xt_iconst (0) dX7_pulses_32 rfl ?_
  refine is6 dX7_pulses_33 (by decide) rfl ?_
  exact lp (LN r m) 0 (by omega) 0 0 0 h1 r 0 f1 g1 hF1 w1 (by rw [Nat.sub_zero]) ⟨rfl, by decide⟩
set_option maxHeartbeats 400000 in
set_option maxRecDepth 100000 in
theorem cr_X7_next_b1 {h : ax_H} {n : Nat} {r : Nat → Int32} {m : Nat} {R : Nat → Nat → Int32} {u : Nat} {im iu : Int32} {Wi : Nat → Nat → Int32} {t : Nat} {tp mn la : Nat → Int32} {it : Nat → Int64} (hI : CB h r m R u im iu Wi t tp mn la it) (x y : Int32) (hx : ¬ (0 ≤ x ∧ x ≤ 2)) : ax_C yX7_next cX7_next 4 (some .int) 5 0 0 [.ref 0, .int x, .int y] h n (kE ((-1000001)) (fun h2 => CB h2 r m R u im iu Wi t tp mn la it ∧ FM n h h2) n) := by
  refine ax_C.go RX7 "next" [some (.ref 0), some (.int x), some (.int y), none] rfl rfl pn_X7 (lb rfl) rfl (fun l G cy bs => ?_)
  obtain ⟨a0, hS, hA, hW, hRd, hG, hM, hH⟩ := (id hI : CB h _ _ _ _ _ _ _ _ _ _ _ _)
  obtain ⟨sp, pi, pp, nw, bz, hd, dw, k1, hP, ⟨s1, s2, s3, s4, s5, s6⟩, k4⟩ := (id hS : SR h 1 _ _)
  obtain ⟨⟨fs1, o1⟩, o17, ⟨fs6, o115⟩, hu6, hm12⟩ := CB.o hI
  have hbz := s5.b
  have him := hM.b
  refine il1 dX7_next_0 ?_
  refine s_X7_60 dX7_next_1 (cn_X7_isAxis _) ⟨lb rfl, lb rfl, lb rfl, lb rfl⟩ ?_
  refine xt_if_eq 11 dX7_next_4 rfl (fun _ => ?_) (fun q => absurd (fl0 (ax3 hx)) q)
  refine k_X7_64 dX7_next_11 ?_
  exact xt_iret dX7_next_13 rfl (lb rfl) (lb rfl) ⟨rfl, ⟨hI, FM_rf⟩, rfl⟩
set_option maxHeartbeats 400000 in
set_option maxRecDepth 100000 in
theorem cr_X7_next_b2 {h : ax_H} {n : Nat} {r : Nat → Int32} {m : Nat} {R : Nat → Nat → Int32} {u : Nat} {im iu : Int32} {Wi : Nat → Nat → Int32} {t : Nat} {tp mn la : Nat → Int32} {it : Nat → Int64} (hI : CB h r m R u im iu Wi t tp mn la it) (x y : Int32) (hx : 0 ≤ x ∧ x ≤ 2) (hy : ¬ 0 ≤ y) : ax_C yX7_next cX7_next 4 (some .int) 5 0 0 [.ref 0, .int x, .int y] h n (kE ((-1000001)) (fun h2 => CB h2 r m R u im iu Wi t tp mn la it ∧ FM n h h2) n) := by
  refine ax_C.go RX7 "next" [some (.ref 0), some (.int x), some (.int y), none] rfl rfl pn_X7 (lb rfl) rfl (fun l G cy bs => ?_)
  obtain ⟨a0, hS, hA, hW, hRd, hG, hM, hH⟩ := (id hI : CB h _ _ _ _ _ _ _ _ _ _ _ _)
  obtain ⟨sp, pi, pp, nw, bz, hd, dw, k1, hP, ⟨s1, s2, s3, s4, s5, s6⟩, k4⟩ := (id hS : SR h 1 _ _)
  obtain ⟨⟨fs1, o1⟩, o17, ⟨fs6, o115⟩, hu6, hm12⟩ := CB.o hI
  have hbz := s5.b
  have him := hM.b
  refine il1 dX7_next_0 ?_
  refine s_X7_60 dX7_next_1 (cn_X7_isAxis _) ⟨lb rfl, lb rfl, lb rfl, lb rfl⟩ ?_
  refine xt_if_eq 11 dX7_next_4 rfl (fun q => absurd q (fl1 (ax3' hx))) (fun _ => ?_)
  refine il2 dX7_next_7 ?_
  refine xt_if_ge 14 dX7_next_8 rfl (fun q => absurd q hy) (fun _ => ?_)
  refine k_X7_64 dX7_next_11 ?_
  exact xt_iret dX7_next_13 rfl (lb rfl) (lb rfl) ⟨rfl, ⟨hI, FM_rf⟩, rfl⟩
set_option maxHeartbeats 400000 in
set_option maxRecDepth 100000 in
theorem cr_X7_next {h : ax_H} {n : Nat} {r : Nat → Int32} {m : Nat} {R : Nat → Nat → Int32} {u : Nat} {im iu : Int32} {Wi : Nat → Nat → Int32} {t : Nat} {tp mn la : Nat → Int32} {it : Nat → Int64} (hI : CB h r m R u im iu Wi t tp mn la it) (a : Nat) (ha : a < 3) (k0 : Int32) (hk0 : 0 ≤ k0) : ax_C yX7_next cX7_next 4 (some .int) 5 0 0 [.ref 0, .int (nI a), .int k0] h n (kE (nexF a k0 (LN r m) 0 r) (fun h2 => CB h2 r m R u im iu Wi t tp mn la it ∧ FM n h h2) n) := by
  refine ax_C.go RX7 "next" [some (.ref 0), some (.int (nI a)), some (.int k0), none] rfl rfl pn_X7 (lb rfl) rfl (fun l G cy bs => ?_)
  obtain ⟨a0, hS, hA, hW, hRd, hG, hM, hH⟩ := (id hI : CB h _ _ _ _ _ _ _ _ _ _ _ _)
  obtain ⟨sp, pi, pp, nw, bz, hd, dw, k1, hP, ⟨s1, s2, s3, s4, s5, s6⟩, k4⟩ := (id hS : SR h 1 _ _)
  obtain ⟨⟨fs1, o1⟩, o17, ⟨fs6, o115⟩, hu6, hm12⟩ := CB.o hI
  have hbz := s5.b
  have him := hM.b
  have hLN := LN_le k4
  have lp : ∀ (L k : Nat), k + L = LN r m → ∀  (h1 : ax_H) (r1 : Nat → Int32) (t1 : Nat) (f1 g1 : Nat → Int32), fr 115 4 h h1 → WR h1 115 1 r m r1 t1 f1 g1 → LN r1 (m - t1) = L → nexF a k0 L k r1 = nexF a k0 (LN r m) 0 r → ax_T l G cy bs (ax_rm 5 0 0) RX7 "next" cX7_next 4 (some .int) (kE (nexF a k0 (LN r m) 0 r) (fun h2 => CB h2 r m R u im iu Wi t tp mn la it ∧ FM n h h2) n) 0 0 23 [some (.ref 0), some (.int (nI a)), some (.int k0), some (.int (nI k))] [] h1 n 0 0 := by
    intro L
    induction L with
    | zero =>
      intro k hk  h1 r1 t1 f1 g1 hF1 w1 hL hr
      obtain ⟨q1, bz1, wf1, ws1, wj1, wb1, wr1⟩ := (id w1 : WR h1 115 1 _ _ _ _ _ _)
      have a01 : h1 0 = some (eX7 im) := by rw [hF1 _ (by omega)]; exact a0
      have hfl : rFlag r1 = 0 := (LN_flag wr1.2.1).mpr hL
      refine il3 dX7_next_23 ?_
      refine xt_sipush (1287) dX7_next_24 rfl ?_
      refine xt_icmp_ge 65 dX7_next_27 rfl (fun c27 => ?_) (fun c27 => ?_)
      · refine k_X7_87 dX7_next_65 ?_
        exact xt_iret dX7_next_67 rfl (lb rfl) (lb rfl) ⟨by rw [← hr]; rfl, ⟨hI.wk w1.wx hF1, FM_fr (by omega) hF1⟩, rfl⟩
      · refine al0 dX7_next_30 ?_
        refine g_X7_28 dX7_next_31 a01 ?_
        refine sP_X7_184 dX7_next_34 (cr_X6_advance w1 (by omega)) wf1.1 ⟨lb rfl, lb rfl, lb rfl, lb rfl⟩ ?_
        rintro h2 ⟨⟨t2, f2, g2, w2, gm2⟩, hf2⟩
        have hF2 : fr 115 4 h h2 := fun j hj => (hf2 j hj).trans (hF1 j hj)
        obtain ⟨q2, bz2, wf2, ws2, wj2, wb2, wr2⟩ := (id w2 : WR h2 115 1 _ _ _ _ _ _)
        have a02 : h2 0 = some (eX7 im) := by rw [hF2 _ (by omega)]; exact a0
        refine xt_if_eq 65 dX7_next_37 rfl (fun _ => ?_) (fun q => absurd hfl q)
        refine k_X7_87 dX7_next_65 ?_
        exact xt_iret dX7_next_67 rfl (lb rfl) (lb rfl) ⟨by rw [← hr]; rfl, ⟨hI.wk w2.wx hF2, FM_fr (by omega) hF2⟩, rfl⟩
    | succ L ih =>
      intro k hk  h1 r1 t1 f1 g1 hF1 w1 hL hr
      obtain ⟨q1, bz1, wf1, ws1, wj1, wb1, wr1⟩ := (id w1 : WR h1 115 1 _ _ _ _ _ _)
      have a01 : h1 0 = some (eX7 im) := by rw [hF1 _ (by omega)]; exact a0
      have hfl : ¬ rFlag r1 = 0 := fun z => by have := (LN_flag wr1.2.1).mp z; omega
      refine il3 dX7_next_23 ?_
      refine xt_sipush (1287) dX7_next_24 rfl ?_
      refine xt_icmp_ge 65 dX7_next_27 rfl (fun q => absurd q (nI_ge (a := k) (b := 1287) (by omega) (by decide))) (fun _ => ?_)
      refine al0 dX7_next_30 ?_
      refine g_X7_28 dX7_next_31 a01 ?_
      refine sP_X7_184 dX7_next_34 (cr_X6_advance w1 (by omega)) wf1.1 ⟨lb rfl, lb rfl, lb rfl, lb rfl⟩ ?_
      rintro h2 ⟨⟨t2, f2, g2, w2, gm2⟩, hf2⟩
      have hF2 : fr 115 4 h h2 := fun j hj => (hf2 j hj).trans (hF1 j hj)
      obtain ⟨q2, bz2, wf2, ws2, wj2, wb2, wr2⟩ := (id w2 : WR h2 115 1 _ _ _ _ _ _)
      have a02 : h2 0 = some (eX7 im) := by rw [hF2 _ (by omega)]; exact a0
      have hL2 : LN (nx r1) (m - t2) = L := LN_nx wr1.2.1 hfl wr2.2.1 hL
      have hgm := gm2 hfl
      refine xt_if_eq 65 dX7_next_37 rfl (fun q => absurd q hfl) (fun _ => ?_)
      refine il3 dX7_next_40 ?_
      refine il2 dX7_next_41 ?_
      refine xt_icmp_lt 59 dX7_next_42 rfl (fun c42 => ?_) (fun c42 => ?_)
      · refine inc3 (nI (k + 1)) dX7_next_59 (nI_1 _) (by decide) rfl ?_
        refine xt_goto 23 dX7_next_62 rfl ?_
        exact ih (k + 1) (by omega) h2 (nx r1) t2 f2 g2 hF2 w2 hL2 (by rw [← hr, nexF, if_pos c42])
      · refine al0 dX7_next_45 ?_
        refine g_X7_28 dX7_next_46 a02 ?_
        refine g_X7_191 dX7_next_49 wf2.1 ?_
        refine il1 dX7_next_52 ?_
        refine xt_iald (a) wf2.2.2.2 (by omega) rfl (by decide) dX7_next_53 ?_
        refine xt_if_eq 59 dX7_next_54 rfl (fun c54 => ?_) (fun c54 => ?_)
        · refine inc3 (nI (k + 1)) dX7_next_59 (nI_1 _) (by decide) rfl ?_
          refine xt_goto 23 dX7_next_62 rfl ?_
          exact ih (k + 1) (by omega) h2 (nx r1) t2 f2 g2 hF2 w2 hL2 (by rw [← hr, nexF, if_neg c42, if_pos (by rw [← hgm a ha]; exact c54)])
        · refine il3 dX7_next_57 ?_
          exact xt_iret dX7_next_58 rfl (lb rfl) (lb rfl) ⟨by rw [← hr, nexF, if_neg c42, if_neg (by rw [← hgm a ha]; exact c54)], ⟨hI.wk w2.wx hF2, FM_fr (by omega) hF2⟩, rfl⟩
  refine il1 dX7_next_0 ?_
  refine s_X7_60 dX7_next_1 (cn_X7_isAxis _) ⟨lb rfl, lb rfl, lb rfl, lb rfl⟩ ?_
  refine xt_if_eq 11 dX7_next_4 rfl (fun q => absurd q (fl1 ⟨nI_pos' (by omega), nI_lt (b := 3) ha (by decide)⟩)) (fun _ => ?_)
  refine il2 dX7_next_7 ?_
  refine xt_if_ge 14 dX7_next_8 rfl (fun _ => ?_) (fun q => absurd hk0 q)
  refine al0 dX7_next_14 ?_
  refine g_X7_28 dX7_next_15 a0 ?_
  refine sP_X7_175 dX7_next_18 (cr_X6_begin hW hS (by omega)) o115 ⟨lb rfl, lb rfl, lb rfl, lb rfl⟩ ?_
  rintro h1 ⟨⟨f1, g1, w1⟩, hF1⟩
  obtain ⟨q1, bz1, wf1, ws1, wj1, wb1, wr1⟩ := (id w1 : WR h1 115 1 _ _ _ _ _ _)
  have a01 : h1 0 = some (eX7 im) := by rw [hF1 _ (by omega)]; exact a0
  refine xt_iconst (0) dX7_next_21 rfl ?_
  refine is3 dX7_next_22 (by decide) rfl ?_
  exact lp (LN r m) 0 (by omega) h1 r 0 f1 g1 hF1 w1 (by rw [Nat.sub_zero]) rfl
set_option maxHeartbeats 400000 in
set_option maxRecDepth 100000 in
theorem cr_X7_meets {h : ax_H} {n : Nat} {r : Nat → Int32} {m : Nat} {R : Nat → Nat → Int32} {u : Nat} {im iu : Int32} {Wi : Nat → Nat → Int32} {t : Nat} {tp mn la : Nat → Int32} {it : Nat → Int64} (hI : CB h r m R u im iu Wi t tp mn la it) (x y z : Int32) : ax_C yX7_meets cX7_meets 5 (some .int) 5 0 0 [.ref 0, .int x, .int y, .int z] h n (kE (metF x y z (LN r m) 0 r) (fun h2 => CB h2 r m R u im iu Wi t tp mn la it ∧ FM n h h2) n) := by
  refine ax_C.go RX7 "meets" [some (.ref 0), some (.int x), some (.int y), some (.int z), none] rfl rfl pn_X7 (lb rfl) rfl (fun l G cy bs => ?_)
  obtain ⟨a0, hS, hA, hW, hRd, hG, hM, hH⟩ := (id hI : CB h _ _ _ _ _ _ _ _ _ _ _ _)
  obtain ⟨sp, pi, pp, nw, bz, hd, dw, k1, hP, ⟨s1, s2, s3, s4, s5, s6⟩, k4⟩ := (id hS : SR h 1 _ _)
  obtain ⟨⟨fs1, o1⟩, o17, ⟨fs6, o115⟩, hu6, hm12⟩ := CB.o hI
  have hbz := s5.b
  have him := hM.b
  have hLN := LN_le k4
  have lp : ∀ (L k : Nat), k + L = LN r m → ∀  (h1 : ax_H) (r1 : Nat → Int32) (t1 : Nat) (f1 g1 : Nat → Int32), fr 115 4 h h1 → WR h1 115 1 r m r1 t1 f1 g1 → LN r1 (m - t1) = L → metF x y z L k r1 = metF x y z (LN r m) 0 r → ax_T l G cy bs (ax_rm 5 0 0) RX7 "meets" cX7_meets 5 (some .int) (kE (metF x y z (LN r m) 0 r) (fun h2 => CB h2 r m R u im iu Wi t tp mn la it ∧ FM n h h2) n) 0 0 10 [some (.ref 0), some (.int x), some (.int y), some (.int z), some (.int (nI k))] [] h1 n 0 0 := by
    intro L
    induction L with
    | zero =>
      intro k hk  h1 r1 t1 f1 g1 hF1 w1 hL hr
      obtain ⟨q1, bz1, wf1, ws1, wj1, wb1, wr1⟩ := (id w1 : WR h1 115 1 _ _ _ _ _ _)
      have a01 : h1 0 = some (eX7 im) := by rw [hF1 _ (by omega)]; exact a0
      have hfl : rFlag r1 = 0 := (LN_flag wr1.2.1).mpr hL
      refine il4 dX7_meets_10 ?_
      refine xt_sipush (1287) dX7_meets_12 rfl ?_
      refine xt_icmp_gt 79 dX7_meets_15 rfl (fun q => absurd q (nI_nlt (a := 1287) (b := k) (by omega) (by decide))) (fun _ => ?_)
      refine al0 dX7_meets_18 ?_
      refine g_X7_28 dX7_meets_19 a01 ?_
      refine g_X7_187 dX7_meets_22 wf1.1 ?_
      refine xt_iconst (0) dX7_meets_25 rfl ?_
      refine xt_iald (0) wf1.2.2.1 (by omega) rfl (by decide) dX7_meets_26 ?_
      refine il1 dX7_meets_27 ?_
      refine xt_icmp_ne 60 dX7_meets_28 rfl (fun c28 => ?_) (fun c28 => ?_)
      · refine al0 dX7_meets_60 ?_
        refine g_X7_28 dX7_meets_61 a01 ?_
        refine sP_X7_184 dX7_meets_64 (cr_X6_advance w1 (by omega)) wf1.1 ⟨lb rfl, lb rfl, lb rfl, lb rfl⟩ ?_
        rintro h2 ⟨⟨t2, f2, g2, w2, gm2⟩, hf2⟩
        have hF2 : fr 115 4 h h2 := fun j hj => (hf2 j hj).trans (hF1 j hj)
        obtain ⟨q2, bz2, wf2, ws2, wj2, wb2, wr2⟩ := (id w2 : WR h2 115 1 _ _ _ _ _ _)
        have a02 : h2 0 = some (eX7 im) := by rw [hF2 _ (by omega)]; exact a0
        refine xt_if_ne 73 dX7_meets_67 rfl (fun q => absurd hfl q) (fun _ => ?_)
        refine xt_goto 79 dX7_meets_70 rfl ?_
        refine k_X7_87 dX7_meets_79 ?_
        exact xt_iret dX7_meets_81 rfl (lb rfl) (lb rfl) ⟨by rw [← hr, metF, if_neg (by rw [← wj1 0 (by omega)]; exact c28)], ⟨hI.wk w2.wx hF2, FM_fr (by omega) hF2⟩, rfl⟩
      · refine al0 dX7_meets_31 ?_
        refine g_X7_28 dX7_meets_32 a01 ?_
        refine g_X7_187 dX7_meets_35 wf1.1 ?_
        refine xt_iconst (1) dX7_meets_38 rfl ?_
        refine xt_iald (1) wf1.2.2.1 (by omega) rfl (by decide) dX7_meets_39 ?_
        refine il2 dX7_meets_40 ?_
        refine xt_icmp_ne 60 dX7_meets_41 rfl (fun c41 => ?_) (fun c41 => ?_)
        · refine al0 dX7_meets_60 ?_
          refine g_X7_28 dX7_meets_61 a01 ?_
          refine sP_X7_184 dX7_meets_64 (cr_X6_advance w1 (by omega)) wf1.1 ⟨lb rfl, lb rfl, lb rfl, lb rfl⟩ ?_
          rintro h2 ⟨⟨t2, f2, g2, w2, gm2⟩, hf2⟩
          have hF2 : fr 115 4 h h2 := fun j hj => (hf2 j hj).trans (hF1 j hj)
          obtain ⟨q2, bz2, wf2, ws2, wj2, wb2, wr2⟩ := (id w2 : WR h2 115 1 _ _ _ _ _ _)
          have a02 : h2 0 = some (eX7 im) := by rw [hF2 _ (by omega)]; exact a0
          refine xt_if_ne 73 dX7_meets_67 rfl (fun q => absurd hfl q) (fun _ => ?_)
          refine xt_goto 79 dX7_meets_70 rfl ?_
          refine k_X7_87 dX7_meets_79 ?_
          exact xt_iret dX7_meets_81 rfl (lb rfl) (lb rfl) ⟨by rw [← hr, metF, if_pos (by rw [← wj1 0 (by omega)]; exact c28), if_neg (by rw [← wj1 1 (by omega)]; exact c41)], ⟨hI.wk w2.wx hF2, FM_fr (by omega) hF2⟩, rfl⟩
        · refine al0 dX7_meets_44 ?_
          refine g_X7_28 dX7_meets_45 a01 ?_
          refine g_X7_187 dX7_meets_48 wf1.1 ?_
          refine xt_iconst (2) dX7_meets_51 rfl ?_
          refine xt_iald (2) wf1.2.2.1 (by omega) rfl (by decide) dX7_meets_52 ?_
          refine il3 dX7_meets_53 ?_
          refine xt_icmp_ne 60 dX7_meets_54 rfl (fun c54 => ?_) (fun c54 => ?_)
          · refine al0 dX7_meets_60 ?_
            refine g_X7_28 dX7_meets_61 a01 ?_
            refine sP_X7_184 dX7_meets_64 (cr_X6_advance w1 (by omega)) wf1.1 ⟨lb rfl, lb rfl, lb rfl, lb rfl⟩ ?_
            rintro h2 ⟨⟨t2, f2, g2, w2, gm2⟩, hf2⟩
            have hF2 : fr 115 4 h h2 := fun j hj => (hf2 j hj).trans (hF1 j hj)
            obtain ⟨q2, bz2, wf2, ws2, wj2, wb2, wr2⟩ := (id w2 : WR h2 115 1 _ _ _ _ _ _)
            have a02 : h2 0 = some (eX7 im) := by rw [hF2 _ (by omega)]; exact a0
            refine xt_if_ne 73 dX7_meets_67 rfl (fun q => absurd hfl q) (fun _ => ?_)
            refine xt_goto 79 dX7_meets_70 rfl ?_
            refine k_X7_87 dX7_meets_79 ?_
            exact xt_iret dX7_meets_81 rfl (lb rfl) (lb rfl) ⟨by rw [← hr, metF, if_pos (by rw [← wj1 0 (by omega)]; exact c28), if_pos (by rw [← wj1 1 (by omega)]; exact c41), if_neg (by rw [← wj1 2 (by omega)]; exact c54)], ⟨hI.wk w2.wx hF2, FM_fr (by omega) hF2⟩, rfl⟩
          · refine il4 dX7_meets_57 ?_
            exact xt_iret dX7_meets_59 rfl (lb rfl) (lb rfl) ⟨by rw [← hr, metF, if_pos (by rw [← wj1 0 (by omega)]; exact c28), if_pos (by rw [← wj1 1 (by omega)]; exact c41), if_pos (by rw [← wj1 2 (by omega)]; exact c54)], ⟨hI.wk w1.wx hF1, FM_fr (by omega) hF1⟩, rfl⟩
    | succ L ih =>
      intro k hk  h1 r1 t1 f1 g1 hF1 w1 hL hr
      obtain ⟨q1, bz1, wf1, ws1, wj1, wb1, wr1⟩ := (id w1 : WR h1 115 1 _ _ _ _ _ _)
      have a01 : h1 0 = some (eX7 im) := by rw [hF1 _ (by omega)]; exact a0
      have hfl : ¬ rFlag r1 = 0 := fun z => by have := (LN_flag wr1.2.1).mp z; omega
      refine il4 dX7_meets_10 ?_
      refine xt_sipush (1287) dX7_meets_12 rfl ?_
      refine xt_icmp_gt 79 dX7_meets_15 rfl (fun q => absurd q (nI_nlt (a := 1287) (b := k) (by omega) (by decide))) (fun _ => ?_)
      refine al0 dX7_meets_18 ?_
      refine g_X7_28 dX7_meets_19 a01 ?_
      refine g_X7_187 dX7_meets_22 wf1.1 ?_
      refine xt_iconst (0) dX7_meets_25 rfl ?_
      refine xt_iald (0) wf1.2.2.1 (by omega) rfl (by decide) dX7_meets_26 ?_
      refine il1 dX7_meets_27 ?_
      refine xt_icmp_ne 60 dX7_meets_28 rfl (fun c28 => ?_) (fun c28 => ?_)
      · refine al0 dX7_meets_60 ?_
        refine g_X7_28 dX7_meets_61 a01 ?_
        refine sP_X7_184 dX7_meets_64 (cr_X6_advance w1 (by omega)) wf1.1 ⟨lb rfl, lb rfl, lb rfl, lb rfl⟩ ?_
        rintro h2 ⟨⟨t2, f2, g2, w2, gm2⟩, hf2⟩
        have hF2 : fr 115 4 h h2 := fun j hj => (hf2 j hj).trans (hF1 j hj)
        obtain ⟨q2, bz2, wf2, ws2, wj2, wb2, wr2⟩ := (id w2 : WR h2 115 1 _ _ _ _ _ _)
        have a02 : h2 0 = some (eX7 im) := by rw [hF2 _ (by omega)]; exact a0
        have hL2 : LN (nx r1) (m - t2) = L := LN_nx wr1.2.1 hfl wr2.2.1 hL
        have hgm := gm2 hfl
        refine xt_if_ne 73 dX7_meets_67 rfl (fun _ => ?_) (fun q => absurd q hfl)
        refine inc4 (nI (k + 1)) dX7_meets_73 (nI_1 _) (by decide) rfl ?_
        refine xt_goto 10 dX7_meets_76 rfl ?_
        exact ih (k + 1) (by omega) h2 (nx r1) t2 f2 g2 hF2 w2 hL2 (by rw [← hr, metF, if_neg (by rw [← wj1 0 (by omega)]; exact c28)])
      · refine al0 dX7_meets_31 ?_
        refine g_X7_28 dX7_meets_32 a01 ?_
        refine g_X7_187 dX7_meets_35 wf1.1 ?_
        refine xt_iconst (1) dX7_meets_38 rfl ?_
        refine xt_iald (1) wf1.2.2.1 (by omega) rfl (by decide) dX7_meets_39 ?_
        refine il2 dX7_meets_40 ?_
        refine xt_icmp_ne 60 dX7_meets_41 rfl (fun c41 => ?_) (fun c41 => ?_)
        · refine al0 dX7_meets_60 ?_
          refine g_X7_28 dX7_meets_61 a01 ?_
          refine sP_X7_184 dX7_meets_64 (cr_X6_advance w1 (by omega)) wf1.1 ⟨lb rfl, lb rfl, lb rfl, lb rfl⟩ ?_
          rintro h2 ⟨⟨t2, f2, g2, w2, gm2⟩, hf2⟩
          have hF2 : fr 115 4 h h2 := fun j hj => (hf2 j hj).trans (hF1 j hj)
          obtain ⟨q2, bz2, wf2, ws2, wj2, wb2, wr2⟩ := (id w2 : WR h2 115 1 _ _ _ _ _ _)
          have a02 : h2 0 = some (eX7 im) := by rw [hF2 _ (by omega)]; exact a0
          have hL2 : LN (nx r1) (m - t2) = L := LN_nx wr1.2.1 hfl wr2.2.1 hL
          have hgm := gm2 hfl
          refine xt_if_ne 73 dX7_meets_67 rfl (fun _ => ?_) (fun q => absurd q hfl)
          refine inc4 (nI (k + 1)) dX7_meets_73 (nI_1 _) (by decide) rfl ?_
          refine xt_goto 10 dX7_meets_76 rfl ?_
          exact ih (k + 1) (by omega) h2 (nx r1) t2 f2 g2 hF2 w2 hL2 (by rw [← hr, metF, if_pos (by rw [← wj1 0 (by omega)]; exact c28), if_neg (by rw [← wj1 1 (by omega)]; exact c41)])
        · refine al0 dX7_meets_44 ?_
          refine g_X7_28 dX7_meets_45 a01 ?_
          refine g_X7_187 dX7_meets_48 wf1.1 ?_
          refine xt_iconst (2) dX7_meets_51 rfl ?_
          refine xt_iald (2) wf1.2.2.1 (by omega) rfl (by decide) dX7_meets_52 ?_
          refine il3 dX7_meets_53 ?_
          refine xt_icmp_ne 60 dX7_meets_54 rfl (fun c54 => ?_) (fun c54 => ?_)
          · refine al0 dX7_meets_60 ?_
            refine g_X7_28 dX7_meets_61 a01 ?_
            refine sP_X7_184 dX7_meets_64 (cr_X6_advance w1 (by omega)) wf1.1 ⟨lb rfl, lb rfl, lb rfl, lb rfl⟩ ?_
            rintro h2 ⟨⟨t2, f2, g2, w2, gm2⟩, hf2⟩
            have hF2 : fr 115 4 h h2 := fun j hj => (hf2 j hj).trans (hF1 j hj)
            obtain ⟨q2, bz2, wf2, ws2, wj2, wb2, wr2⟩ := (id w2 : WR h2 115 1 _ _ _ _ _ _)
            have a02 : h2 0 = some (eX7 im) := by rw [hF2 _ (by omega)]; exact a0
            have hL2 : LN (nx r1) (m - t2) = L := LN_nx wr1.2.1 hfl wr2.2.1 hL
            have hgm := gm2 hfl
            refine xt_if_ne 73 dX7_meets_67 rfl (fun _ => ?_) (fun q => absurd q hfl)
            refine inc4 (nI (k + 1)) dX7_meets_73 (nI_1 _) (by decide) rfl ?_
            refine xt_goto 10 dX7_meets_76 rfl ?_
            exact ih (k + 1) (by omega) h2 (nx r1) t2 f2 g2 hF2 w2 hL2 (by rw [← hr, metF, if_pos (by rw [← wj1 0 (by omega)]; exact c28), if_pos (by rw [← wj1 1 (by omega)]; exact c41), if_neg (by rw [← wj1 2 (by omega)]; exact c54)])
          · refine il4 dX7_meets_57 ?_
            exact xt_iret dX7_meets_59 rfl (lb rfl) (lb rfl) ⟨by rw [← hr, metF, if_pos (by rw [← wj1 0 (by omega)]; exact c28), if_pos (by rw [← wj1 1 (by omega)]; exact c41), if_pos (by rw [← wj1 2 (by omega)]; exact c54)], ⟨hI.wk w1.wx hF1, FM_fr (by omega) hF1⟩, rfl⟩
  refine al0 dX7_meets_0 ?_
  refine g_X7_28 dX7_meets_1 a0 ?_
  refine sP_X7_175 dX7_meets_4 (cr_X6_begin hW hS (by omega)) o115 ⟨lb rfl, lb rfl, lb rfl, lb rfl⟩ ?_
  rintro h1 ⟨⟨f1, g1, w1⟩, hF1⟩
  obtain ⟨q1, bz1, wf1, ws1, wj1, wb1, wr1⟩ := (id w1 : WR h1 115 1 _ _ _ _ _ _)
  have a01 : h1 0 = some (eX7 im) := by rw [hF1 _ (by omega)]; exact a0
  refine xt_iconst (0) dX7_meets_7 rfl ?_
  refine is4 dX7_meets_8 (by decide) rfl ?_
  exact lp (LN r m) 0 (by omega) h1 r 0 f1 g1 hF1 w1 (by rw [Nat.sub_zero]) rfl
set_option maxHeartbeats 400000 in
set_option maxRecDepth 100000 in
theorem cr_X7_reach_b1 {h : ax_H} {n : Nat} {r : Nat → Int32} {m : Nat} {R : Nat → Nat → Int32} {u : Nat} {im iu : Int32} {Wi : Nat → Nat → Int32} {t : Nat} {tp mn la : Nat → Int32} {it : Nat → Int64} (hI : CB h r m R u im iu Wi t tp mn la it) (x y : Int32) (hx : ¬ (0 ≤ x ∧ x ≤ 2)) : ax_C yX7_reach cX7_reach 6 (some .int) 5 0 0 [.ref 0, .int x, .int y] h n (kE ((-1000001)) (fun h2 => CB h2 r m R u im iu Wi t tp mn la it ∧ FM n h h2) n) := by
  refine ax_C.go RX7 "reach" [some (.ref 0), some (.int x), some (.int y), none, none, none] rfl rfl pn_X7 (lb rfl) rfl (fun l G cy bs => ?_)
  obtain ⟨a0, hS, hA, hW, hRd, hG, hM, hH⟩ := (id hI : CB h _ _ _ _ _ _ _ _ _ _ _ _)
  obtain ⟨sp, pi, pp, nw, bz, hd, dw, k1, hP, ⟨s1, s2, s3, s4, s5, s6⟩, k4⟩ := (id hS : SR h 1 _ _)
  obtain ⟨⟨fs1, o1⟩, o17, ⟨fs6, o115⟩, hu6, hm12⟩ := CB.o hI
  have hbz := s5.b
  have him := hM.b
  refine il1 dX7_reach_0 ?_
  refine s_X7_60 dX7_reach_1 (cn_X7_isAxis _) ⟨lb rfl, lb rfl, lb rfl, lb rfl⟩ ?_
  refine xt_if_eq 14 dX7_reach_4 rfl (fun _ => ?_) (fun q => absurd (fl0 (ax3 hx)) q)
  refine k_X7_64 dX7_reach_14 ?_
  exact xt_iret dX7_reach_16 rfl (lb rfl) (lb rfl) ⟨rfl, ⟨hI, FM_rf⟩, rfl⟩
set_option maxHeartbeats 400000 in
set_option maxRecDepth 100000 in
theorem cr_X7_reach_b2 {h : ax_H} {n : Nat} {r : Nat → Int32} {m : Nat} {R : Nat → Nat → Int32} {u : Nat} {im iu : Int32} {Wi : Nat → Nat → Int32} {t : Nat} {tp mn la : Nat → Int32} {it : Nat → Int64} (hI : CB h r m R u im iu Wi t tp mn la it) (x y : Int32) (hx : 0 ≤ x ∧ x ≤ 2) (hy : ¬ (0 ≤ y ∧ y ≤ 1)) : ax_C yX7_reach cX7_reach 6 (some .int) 5 0 0 [.ref 0, .int x, .int y] h n (kE ((-1000001)) (fun h2 => CB h2 r m R u im iu Wi t tp mn la it ∧ FM n h h2) n) := by
  refine ax_C.go RX7 "reach" [some (.ref 0), some (.int x), some (.int y), none, none, none] rfl rfl pn_X7 (lb rfl) rfl (fun l G cy bs => ?_)
  obtain ⟨a0, hS, hA, hW, hRd, hG, hM, hH⟩ := (id hI : CB h _ _ _ _ _ _ _ _ _ _ _ _)
  obtain ⟨sp, pi, pp, nw, bz, hd, dw, k1, hP, ⟨s1, s2, s3, s4, s5, s6⟩, k4⟩ := (id hS : SR h 1 _ _)
  obtain ⟨⟨fs1, o1⟩, o17, ⟨fs6, o115⟩, hu6, hm12⟩ := CB.o hI
  have hbz := s5.b
  have him := hM.b
  refine il1 dX7_reach_0 ?_
  refine s_X7_60 dX7_reach_1 (cn_X7_isAxis _) ⟨lb rfl, lb rfl, lb rfl, lb rfl⟩ ?_
  refine xt_if_eq 14 dX7_reach_4 rfl (fun q => absurd q (fl1 (ax3' hx))) (fun _ => ?_)
  refine il2 dX7_reach_7 ?_
  refine s_X7_188 dX7_reach_8 (cn_X7_isSide _) ⟨lb rfl, lb rfl, lb rfl, lb rfl⟩ ?_
  refine xt_if_ne 17 dX7_reach_11 rfl (fun q => absurd (fl0 (fun z => hy (sd.mp z))) q) (fun _ => ?_)
  refine k_X7_64 dX7_reach_14 ?_
  exact xt_iret dX7_reach_16 rfl (lb rfl) (lb rfl) ⟨rfl, ⟨hI, FM_rf⟩, rfl⟩
theorem rea_p {a L0 : Nat} {r r1 : Nat → Int32} {wh e0 e1 v : Int32} (hw : 0 ≤ wh ∧ wh ≤ 1) (h0 : reaF a 0 0 r1 e0 = reaF a 0 L0 r v) (h1 : reaF a 1 0 r1 e1 = reaF a 1 L0 r v) : (if wh = 0 then e0 else e1) = reaF a wh L0 r v := by
  rcases sd.mpr hw with rfl | rfl
  · rw [if_pos rfl]; exact h0
  · rw [if_neg (by decide)]; exact h1
theorem rea_0 (x e : Int32) : (if x < e then x else e) = reaS 0 x e := by
  show _ = if (0 : Int32) = 0 then (if e ≤ x then e else x) else (if x ≤ e then e else x)
  rw [if_pos (rfl : (0 : Int32) = 0)]
  by_cases h : x < e
  · rw [if_pos h, if_neg (by rw [fb_le]; rw [fb_lt] at h; omega)]
  · rw [if_neg h, if_pos (by rw [fb_le]; rw [fb_lt] at h; omega)]
theorem rea_1 (x e : Int32) : (if e < x then x else e) = reaS 1 x e := by
  show _ = if (1 : Int32) = 0 then (if e ≤ x then e else x) else (if x ≤ e then e else x)
  rw [if_neg (show ¬ (1 : Int32) = 0 by decide)]
  by_cases h : e < x
  · rw [if_pos h, if_neg (by rw [fb_le]; rw [fb_lt] at h; omega)]
  · rw [if_neg h, if_pos (by rw [fb_le]; rw [fb_lt] at h; omega)]
set_option maxHeartbeats 400000 in
set_option maxRecDepth 100000 in
theorem cr_X7_reach {h : ax_H} {n : Nat} {r : Nat → Int32} {m : Nat} {R : Nat → Nat → Int32} {u : Nat} {im iu : Int32} {Wi : Nat → Nat → Int32} {t : Nat} {tp mn la : Nat → Int32} {it : Nat → Int64} (hI : CB h r m R u im iu Wi t tp mn la it) (a : Nat) (ha : a < 3) (wh : Int32) (hw : 0 ≤ wh ∧ wh ≤ 1) : ax_C yX7_reach cX7_reach 6 (some .int) 5 0 0 [.ref 0, .int (nI a), .int wh] h n (kE (reaF a wh (LN r m) r (r a)) (fun h2 => CB h2 r m R u im iu Wi t tp mn la it ∧ FM n h h2) n) := by
  refine ax_C.go RX7 "reach" [some (.ref 0), some (.int (nI a)), some (.int wh), none, none, none] rfl rfl pn_X7 (lb rfl) rfl (fun l G cy bs => ?_)
  obtain ⟨a0, hS, hA, hW, hRd, hG, hM, hH⟩ := (id hI : CB h _ _ _ _ _ _ _ _ _ _ _ _)
  obtain ⟨sp, pi, pp, nw, bz, hd, dw, k1, hP, ⟨s1, s2, s3, s4, s5, s6⟩, k4⟩ := (id hS : SR h 1 _ _)
  obtain ⟨⟨fs1, o1⟩, o17, ⟨fs6, o115⟩, hu6, hm12⟩ := CB.o hI
  have hbz := s5.b
  have him := hM.b
  have hLN := LN_le k4
  have lp : ∀ (L k : Nat), k + L = LN r m → ∀ (e0 e1 : Int32) (h1 : ax_H) (r1 : Nat → Int32) (t1 : Nat) (f1 g1 : Nat → Int32), fr 115 4 h h1 → WR h1 115 1 r m r1 t1 f1 g1 → LN r1 (m - t1) = L → (reaF a 0 L r1 e0 = reaF a 0 (LN r m) r (r a) ∧ reaF a 1 L r1 e1 = reaF a 1 (LN r m) r (r a)) → ax_T l G cy bs (ax_rm 5 0 0) RX7 "reach" cX7_reach 6 (some .int) (kE (reaF a wh (LN r m) r (r a)) (fun h2 => CB h2 r m R u im iu Wi t tp mn la it ∧ FM n h h2) n) 0 0 40 [some (.ref 0), some (.int (nI a)), some (.int wh), some (.int e0), some (.int e1), some (.int (nI k))] [] h1 n 0 0 := by
    intro L
    induction L with
    | zero =>
      intro k hk e0 e1  h1 r1 t1 f1 g1 hF1 w1 hL hr
      obtain ⟨q1, bz1, wf1, ws1, wj1, wb1, wr1⟩ := (id w1 : WR h1 115 1 _ _ _ _ _ _)
      have a01 : h1 0 = some (eX7 im) := by rw [hF1 _ (by omega)]; exact a0
      have hfl : rFlag r1 = 0 := (LN_flag wr1.2.1).mpr hL
      refine il5 dX7_reach_40 ?_
      refine xt_sipush (1287) dX7_reach_42 rfl ?_
      refine xt_icmp_ge 94 dX7_reach_45 rfl (fun c45 => ?_) (fun c45 => ?_)
      · refine il2 dX7_reach_94 ?_
        apply xj_if_ne 102 dX7_reach_95 rfl
        · intro k95
          refine ⟨fun c95 => ?_, fun c95 => ?_⟩
          · refine il4 dX7_reach_102 ?_
            exact xt_in1 k95 c95
          · refine il3 dX7_reach_98 ?_
            refine xt_goto 104 dX7_reach_99 rfl ?_
            exact xt_in2 k95 c95
        · skip
          exact xt_iret dX7_reach_104 rfl (lb rfl) (lb rfl) ⟨by rw [rea_p hw hr.1 hr.2], ⟨hI.wk w1.wx hF1, FM_fr (by omega) hF1⟩, rfl⟩
      · refine al0 dX7_reach_48 ?_
        refine g_X7_28 dX7_reach_49 a01 ?_
        refine sP_X7_184 dX7_reach_52 (cr_X6_advance w1 (by omega)) wf1.1 ⟨lb rfl, lb rfl, lb rfl, lb rfl⟩ ?_
        rintro h2 ⟨⟨t2, f2, g2, w2, gm2⟩, hf2⟩
        have hF2 : fr 115 4 h h2 := fun j hj => (hf2 j hj).trans (hF1 j hj)
        obtain ⟨q2, bz2, wf2, ws2, wj2, wb2, wr2⟩ := (id w2 : WR h2 115 1 _ _ _ _ _ _)
        have a02 : h2 0 = some (eX7 im) := by rw [hF2 _ (by omega)]; exact a0
        refine xt_if_eq 94 dX7_reach_55 rfl (fun _ => ?_) (fun q => absurd hfl q)
        refine il2 dX7_reach_94 ?_
        apply xj_if_ne 102 dX7_reach_95 rfl
        · intro k95
          refine ⟨fun c95 => ?_, fun c95 => ?_⟩
          · refine il4 dX7_reach_102 ?_
            exact xt_in1 k95 c95
          · refine il3 dX7_reach_98 ?_
            refine xt_goto 104 dX7_reach_99 rfl ?_
            exact xt_in2 k95 c95
        · skip
          exact xt_iret dX7_reach_104 rfl (lb rfl) (lb rfl) ⟨by rw [rea_p hw hr.1 hr.2], ⟨hI.wk w2.wx hF2, FM_fr (by omega) hF2⟩, rfl⟩
    | succ L ih =>
      intro k hk e0 e1  h1 r1 t1 f1 g1 hF1 w1 hL hr
      obtain ⟨q1, bz1, wf1, ws1, wj1, wb1, wr1⟩ := (id w1 : WR h1 115 1 _ _ _ _ _ _)
      have a01 : h1 0 = some (eX7 im) := by rw [hF1 _ (by omega)]; exact a0
      have hfl : ¬ rFlag r1 = 0 := fun z => by have := (LN_flag wr1.2.1).mp z; omega
      refine il5 dX7_reach_40 ?_
      refine xt_sipush (1287) dX7_reach_42 rfl ?_
      refine xt_icmp_ge 94 dX7_reach_45 rfl (fun q => absurd q (nI_ge (a := k) (b := 1287) (by omega) (by decide))) (fun _ => ?_)
      refine al0 dX7_reach_48 ?_
      refine g_X7_28 dX7_reach_49 a01 ?_
      refine sP_X7_184 dX7_reach_52 (cr_X6_advance w1 (by omega)) wf1.1 ⟨lb rfl, lb rfl, lb rfl, lb rfl⟩ ?_
      rintro h2 ⟨⟨t2, f2, g2, w2, gm2⟩, hf2⟩
      have hF2 : fr 115 4 h h2 := fun j hj => (hf2 j hj).trans (hF1 j hj)
      obtain ⟨q2, bz2, wf2, ws2, wj2, wb2, wr2⟩ := (id w2 : WR h2 115 1 _ _ _ _ _ _)
      have a02 : h2 0 = some (eX7 im) := by rw [hF2 _ (by omega)]; exact a0
      have hL2 : LN (nx r1) (m - t2) = L := LN_nx wr1.2.1 hfl wr2.2.1 hL
      have hgm := gm2 hfl
      refine xt_if_eq 94 dX7_reach_55 rfl (fun q => absurd q hfl) (fun _ => ?_)
      refine il3 dX7_reach_58 ?_
      refine al0 dX7_reach_59 ?_
      refine g_X7_28 dX7_reach_60 a02 ?_
      refine g_X7_187 dX7_reach_63 wf2.1 ?_
      refine il1 dX7_reach_66 ?_
      refine xt_iald (a) wf2.2.2.1 (by omega) rfl (by decide) dX7_reach_67 ?_
      refine s_X7_178 dX7_reach_68 ⟨lb rfl, lb rfl, lb rfl, lb rfl⟩ ?_
      refine is3 dX7_reach_71 (by decide) rfl ?_
      refine il4 dX7_reach_72 ?_
      refine al0 dX7_reach_74 ?_
      refine g_X7_28 dX7_reach_75 a02 ?_
      refine g_X7_187 dX7_reach_78 wf2.1 ?_
      refine il1 dX7_reach_81 ?_
      refine xt_iald (a) wf2.2.2.1 (by omega) rfl (by decide) dX7_reach_82 ?_
      refine s_X7_194 dX7_reach_83 ⟨lb rfl, lb rfl, lb rfl, lb rfl⟩ ?_
      refine is4 dX7_reach_86 (by decide) rfl ?_
      refine inc5 (nI (k + 1)) dX7_reach_88 (nI_1 _) (by decide) rfl ?_
      refine xt_goto 40 dX7_reach_91 rfl ?_
      exact ih (k + 1) (by omega) _ _ h2 (nx r1) t2 f2 g2 hF2 w2 hL2 ⟨by rw [← hr.1, wj2 a ha, rea_0]; rfl, by rw [← hr.2, wj2 a ha, rea_1]; rfl⟩
  refine il1 dX7_reach_0 ?_
  refine s_X7_60 dX7_reach_1 (cn_X7_isAxis _) ⟨lb rfl, lb rfl, lb rfl, lb rfl⟩ ?_
  refine xt_if_eq 14 dX7_reach_4 rfl (fun q => absurd q (fl1 ⟨nI_pos' (by omega), nI_lt (b := 3) ha (by decide)⟩)) (fun _ => ?_)
  refine il2 dX7_reach_7 ?_
  refine s_X7_188 dX7_reach_8 (cn_X7_isSide _) ⟨lb rfl, lb rfl, lb rfl, lb rfl⟩ ?_
  refine xt_if_ne 17 dX7_reach_11 rfl (fun _ => ?_) (fun q => absurd q (fl1 (sd.mpr hw)))
  refine al0 dX7_reach_17 ?_
  refine g_X7_12 dX7_reach_18 a0 ?_
  refine g_X7_65 dX7_reach_21 k1.1 ?_
  refine il1 dX7_reach_24 ?_
  refine xt_iald (a) k1.2.1 (by omega) rfl (by decide) dX7_reach_25 ?_
  refine is3 dX7_reach_26 (by decide) rfl ?_
  refine il3 dX7_reach_27 ?_
  refine is4 dX7_reach_28 (by decide) rfl ?_
  refine al0 dX7_reach_30 ?_
  refine g_X7_28 dX7_reach_31 a0 ?_
  refine sP_X7_175 dX7_reach_34 (cr_X6_begin hW hS (by omega)) o115 ⟨lb rfl, lb rfl, lb rfl, lb rfl⟩ ?_
  rintro h1 ⟨⟨f1, g1, w1⟩, hF1⟩
  obtain ⟨q1, bz1, wf1, ws1, wj1, wb1, wr1⟩ := (id w1 : WR h1 115 1 _ _ _ _ _ _)
  have a01 : h1 0 = some (eX7 im) := by rw [hF1 _ (by omega)]; exact a0
  refine xt_iconst (0) dX7_reach_37 rfl ?_
  refine is5 dX7_reach_38 (by decide) rfl ?_
  exact lp (LN r m) 0 (by omega) _ _ h1 r 0 f1 g1 hF1 w1 (by rw [Nat.sub_zero]) ⟨by rw [s1 a ha], by rw [s1 a ha]⟩
