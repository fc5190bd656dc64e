/-! a state of the class against a row of the reference -/
theorem ab_eq {x : Int32} (h1 : -1000 ≤ x.toInt) (h2 : x.toInt ≤ 1000) : ab x = nI x.toInt.natAbs := by
  rw [← rSz_eq h1 h2]
  unfold ab rSz
  by_cases hx : 0 ≤ x
  · rw [if_pos hx, if_neg (by rw [fb_lt]; rw [fb_le] at hx; omega)]
  · rw [if_neg hx, if_pos (by rw [fb_lt]; rw [fb_le] at hx; omega), Int32.zero_sub]
theorem mx_nI {a b : Nat} (ha : a < 2 ^ 31) (hb : b < 2 ^ 31) : mx (nI a) (nI b) = nI (max a b) := by
  unfold mx
  by_cases h : a < b
  · rw [if_pos (nI_lt h hb), Nat.max_eq_right (by omega)]
  · rw [if_neg (nI_nlt (by omega) ha), Nat.max_eq_left (by omega)]
theorem turnsQ_eq {q : Nat → Int32} (ha : -1000 ≤ (q 1).toInt ∧ (q 1).toInt ≤ 1000) (hb : -1000 ≤ (q 2).toInt ∧ (q 2).toInt ≤ 1000) (hc : -1000 ≤ (q 3).toInt ∧ (q 3).toInt ≤ 1000) : turnsQ q = nI (rTn (q 1) (q 2) (q 3)) := by
  unfold turnsQ rTn
  rw [ab_eq ha.1 ha.2, ab_eq hb.1 hb.2, ab_eq hc.1 hc.2, mx_nI (by omega) (by omega), mx_nI (by omega) (by omega), Nat.max_assoc]
theorem isA_eq (q : Nat → Int32) : isA q = if q 0 = 3 ∨ q 0 = 4 then 1 else 0 := by
  unfold isA
  by_cases h3 : q 0 = 3
  · rw [if_pos h3, if_pos (Or.inl h3)]
  · by_cases h4 : q 0 = 4
    · rw [if_neg h3, if_pos h4, if_pos (Or.inr h4)]
    · rw [if_neg h3, if_neg h4, if_neg (by rintro (h | h) <;> contradiction)]
theorem isA_ok {q : Nat → Int32} (h : okP (q 0) (q 1) (q 2) (q 3)) : isA q = if 3 ≤ q 0 then 1 else 0 := by
  rw [isA_eq]
  have hi := (okP_int h).1
  by_cases h3 : 3 ≤ q 0
  · rw [if_pos h3]
    rw [if_pos]
    rw [fb_eq, fb_eq, ti_3, ti_4]
    rw [fb_le, ti_3] at h3
    omega
  · rw [if_neg h3, if_neg]
    rw [fb_eq, fb_eq, ti_3, ti_4]
    rw [fb_le, ti_3] at h3
    omega
theorem totQ_eq {q : Nat → Int32} (h : okP (q 0) (q 1) (q 2) (q 3)) : totQ q = rSteps (q 0) (q 1) (q 2) (q 3) := by
  have hi := okP_int h
  rw [(rSteps_eq h).1]
  unfold totQ stN
  rw [isA_ok h]
  by_cases h3 : 3 ≤ q 0
  · have h2 : 2 ≤ q 0 := by rw [fb_le, ti_2]; rw [fb_le, ti_3] at h3; omega
    have hn : ¬ q 0 = 2 := by rw [fb_eq, ti_2]; rw [fb_le, ti_3] at h3; omega
    rw [if_pos h3, if_neg (by decide), if_pos h2, if_neg hn]
    rw [fb_le, ti_3] at h3
    rw [← Int32.toInt_inj, nI_toInt (by omega)]
    omega
  · rw [if_neg h3, if_pos rfl]
    rw [fb_le, ti_3] at h3
    by_cases hn : q 0 = 2
    · rw [if_pos hn, if_pos (by rw [hn]; decide), if_pos hn]
      rw [ab_eq (by omega) (by omega), ab_eq (by omega) (by omega), ab_eq (by omega) (by omega), nI_add, nI_add]
    · rw [if_neg hn, if_neg (by rw [fb_le, ti_2]; rw [fb_eq, ti_2] at hn; omega)]
      exact turnsQ_eq (by omega) (by omega) (by omega)
theorem totQ_congr {q q' : Nat → Int32} (h0 : q 0 = q' 0) (h1 : q 1 = q' 1) (h2 : q 2 = q' 2) (h3 : q 3 = q' 3) : totQ q = totQ q' := by
  unfold totQ isA turnsQ; rw [h0, h1, h2, h3]
theorem remQ_congr {q q' : Nat → Int32} (h : ∀ j, j < 9 → q j = q' j) : remQ q = remQ q' := by
  unfold remQ; rw [totQ_congr (h 0 (by omega)) (h 1 (by omega)) (h 2 (by omega)) (h 3 (by omega)), h 4 (by omega)]
theorem remQ_tl {k a b c : Int32} (h : okP k a b c) : remQ (tl k a b c) = rSteps k a b c := by
  unfold remQ
  rw [totQ_eq (q := tl k a b c) h]
  show rSteps k a b c - 0 = _
  rw [Int32.sub_zero]
/-! an even one: which of its turns' axes move -/
def cnE (q : Nat → Int32) : Nat → Nat
  | 0 => 0
  | i + 1 => cnE q i + (if aeB q (nI (i / 3 + 1)) (i % 3) = 0 then 0 else 1)
theorem aeB_congr {q q' : Nat → Int32} (h0 : q 0 = q' 0) (h1 : q 1 = q' 1) (h2 : q 2 = q' 2) (h3 : q 3 = q' 3) (t : Int32) (al : Nat) : aeB q t al = aeB q' t al := by
  unfold aeB goneQ farQ turnsQ wayQ; rw [h0, h1, h2, h3]
theorem cnE_congr {q q' : Nat → Int32} (h0 : q 0 = q' 0) (h1 : q 1 = q' 1) (h2 : q 2 = q' 2) (h3 : q 3 = q' 3) : ∀ i, cnE q i = cnE q' i
  | 0 => rfl
  | i + 1 => by
    show cnE q i + _ = cnE q' i + _
    rw [cnE_congr h0 h1 h2 h3 i, aeB_congr h0 h1 h2 h3]
def EV (q : Nat → Int32) : Prop := ∃ t ax d : Nat, q 5 = nI t ∧ q 6 = nI ax ∧ q 4 = nI d ∧ d < 1000 ∧ ax ≤ 3 ∧ 1 ≤ t ∧ t ≤ 15 ∧ cnE q (3 * (t - 1) + ax) = d
/-- the begun piece q is the row's -/
def NQ (q r : Nat → Int32) : Prop := q 0 = r 5 ∧ q 1 = r 6 ∧ q 2 = r 7 ∧ q 3 = r 8 ∧ q 4 = r 9 ∧ q 7 = r 10 ∧ q 8 = r 11 ∧ 0 ≤ r 5 ∧ (r 5 = 2 → EV q)
def NB (q : Nat → Int32) (bz : Int32) (r : Nat → Int32) : Prop := (bz = 0 ∧ r 5 = -1) ∨ (bz = 1 ∧ NQ q r)
theorem NB.b {q r : Nat → Int32} {bz : Int32} (h : NB q bz r) : bz = 0 ∨ bz = 1 := by rcases h with h | h; exact Or.inl h.1; exact Or.inr h.1
theorem NQ_congr {q q' r r' : Nat → Int32} (hq : ∀ j, j < 9 → q' j = q j) (hr : ∀ j, 5 ≤ j → j < 12 → r' j = r j) (h : NQ q r) : NQ q' r' := by
  obtain ⟨h0, h1, h2, h3, h4, h7, h8, h9, h10⟩ := h
  refine ⟨?_, ?_, ?_, ?_, ?_, ?_, ?_, ?_, ?_⟩
  · rw [hq _ (by omega), hr _ (by omega) (by omega)]; exact h0
  · rw [hq _ (by omega), hr _ (by omega) (by omega)]; exact h1
  · rw [hq _ (by omega), hr _ (by omega) (by omega)]; exact h2
  · rw [hq _ (by omega), hr _ (by omega) (by omega)]; exact h3
  · rw [hq _ (by omega), hr _ (by omega) (by omega)]; exact h4
  · rw [hq _ (by omega), hr _ (by omega) (by omega)]; exact h7
  · rw [hq _ (by omega), hr _ (by omega) (by omega)]; exact h8
  · rw [hr _ (by omega) (by omega)]; exact h9
  · intro e
    rw [hr _ (by omega) (by omega)] at e
    obtain ⟨t, ax, d, q5, q6, q4, q9, q10, q11, q12, q13⟩ := h10 e
    exact ⟨t, ax, d, by rw [hq _ (by omega)]; exact q5, by rw [hq _ (by omega)]; exact q6, by rw [hq _ (by omega)]; exact q4, q9, q10, q11, q12, by rw [cnE_congr (hq 0 (by omega)) (hq 1 (by omega)) (hq 2 (by omega)) (hq 3 (by omega))]; exact q13⟩
theorem NB_congr {q q' r r' : Nat → Int32} {bz : Int32} (hq : ∀ j, j < 9 → q' j = q j) (hr : ∀ j, 5 ≤ j → j < 12 → r' j = r j) (h : NB q bz r) : NB q' bz r' := by
  rcases h with ⟨h1, h2⟩ | ⟨h1, h2⟩
  · exact Or.inl ⟨h1, by rw [hr 5 (by omega) (by omega)]; exact h2⟩
  · exact Or.inr ⟨h1, NQ_congr hq hr h2⟩
/-- the piece that waits at k, as the class tells it -/
abbrev tlR (r : Nat → Int32) (k : Nat) : Nat → Int32 := tl (r (13 + 4 * k)) (r (13 + 4 * k + 1)) (r (13 + 4 * k + 2)) (r (13 + 4 * k + 3))
def ST (sp : Nat → Int32) (pi : Nat → Nat) (pp : Nat → Nat → Int32) (nw : Nat → Int32) (bz hd dw : Int32) (r : Nat → Int32) (m : Nat) : Prop :=
  (∀ j, j < 3 → sp j = r j) ∧ hd = r 3 ∧ dw = r 4 ∧ (∀ k, k < m → ∀ j, j < 9 → pp (pi k) j = tlR r k j) ∧ NB nw bz r ∧ (hd = 0 ∨ hd = 1)
def PW (pi : Nat → Nat) : Prop := (∀ k, k < 12 → pi k < 12) ∧ ∀ j k, j < 12 → k < 12 → pi j = pi k → j = k
def SR (h : ax_H) (B : Nat) (r : Nat → Int32) (m : Nat) : Prop := ∃ sp pi pp nw bz hd dw, SF h B sp pi pp (nI m) nw bz hd dw ∧ PW pi ∧ ST sp pi pp nw bz hd dw r m ∧ RI r m
/-- a state's cells, whatever stands there -/
def SX (h : ax_H) (B : Nat) : Prop := ∃ sp pi pp w nw bz hd dw, SF h B sp pi pp w nw bz hd dw ∧ PW pi ∧ (bz = 0 ∨ bz = 1) ∧ (hd = 0 ∨ hd = 1)
theorem SR.sx {h : ax_H} {B m : Nat} {r : Nat → Int32} (hS : SR h B r m) : SX h B := by
  obtain ⟨sp, pi, pp, nw, bz, hd, dw, h1, h2, h3, -⟩ := hS
  exact ⟨sp, pi, pp, _, nw, bz, hd, dw, h1, h2, h3.2.2.2.2.1.b, h3.2.2.2.2.2⟩
theorem SR.ri {h : ax_H} {B m : Nat} {r : Nat → Int32} (hS : SR h B r m) : RI r m := by obtain ⟨_, _, _, _, _, _, _, _, _, _, q⟩ := hS; exact q
def fr (B N : Nat) (h h2 : ax_H) : Prop := ∀ j, (j < B ∨ B + N ≤ j) → h2 j = h j
theorem fr_su {h : ax_H} {B : Nat} {sp : Nat → Int32} {pi : Nat → Nat} {pp : Nat → Nat → Int32} {w : Int32} {nw : Nat → Int32} {bz hd dw : Int32} : fr B 16 h (stU h B sp pi pp w nw bz hd dw) := fun _ hj => su_n hj
theorem SX.fr {h h2 : ax_H} {B : Nat} (hS : SX h B) (he : ∀ j, B ≤ j → j < B + 16 → h2 j = h j) : SX h2 B := by
  obtain ⟨sp, pi, pp, w, nw, bz, hd, dw, h1, h2, h3⟩ := hS
  exact ⟨sp, pi, pp, w, nw, bz, hd, dw, h1.fr he, h2, h3⟩
theorem SR.fr {h h2 : ax_H} {B m : Nat} {r : Nat → Int32} (hS : SR h B r m) (he : ∀ j, B ≤ j → j < B + 16 → h2 j = h j) : SR h2 B r m := by
  obtain ⟨sp, pi, pp, nw, bz, hd, dw, h1, h2, h3⟩ := hS
  exact ⟨sp, pi, pp, nw, bz, hd, dw, h1.fr he, h2, h3⟩
theorem RI_congr {r r' : Nat → Int32} {m : Nat} (hr : ∀ j, j < 61 → r' j = r j) (h : RI r m) : RI r' m := by
  obtain ⟨⟨h1, h2, h3⟩, h4⟩ := h
  refine ⟨⟨by rw [hr 12 (by omega)]; exact h1, h2, fun k hk => ?_⟩, RI_now (fun j hj => hr j (by omega)) h4⟩
  show okP (r' (13 + 4 * k)) (r' (13 + 4 * k + 1)) (r' (13 + 4 * k + 2)) (r' (13 + 4 * k + 3))
  rw [hr _ (by omega), hr _ (by omega), hr _ (by omega), hr _ (by omega)]
  exact h3 k hk
theorem SR_congr {h : ax_H} {B m : Nat} {r r' : Nat → Int32} (hr : ∀ j, j < 61 → r' j = r j) (hS : SR h B r m) : SR h B r' m := by
  obtain ⟨sp, pi, pp, nw, bz, hd, dw, h1, h2, ⟨s1, s2, s3, s4, s5, s6⟩, h4⟩ := hS
  have hm := h4.1.2.1
  refine ⟨sp, pi, pp, nw, bz, hd, dw, h1, h2, ⟨fun j hj => by rw [hr j (by omega)]; exact s1 j hj, by rw [hr 3 (by omega)]; exact s2, by rw [hr 4 (by omega)]; exact s3, fun k hk j hj => ?_, NB_congr (fun _ _ => rfl) (fun j _ q => hr j (by omega)) s5, s6⟩, RI_congr hr h4⟩
  unfold tlR
  rw [hr _ (by omega), hr _ (by omega), hr _ (by omega), hr _ (by omega)]
  exact s4 k hk j hj
theorem PW_comp {pi pi2 : Nat → Nat} (s : Nat → Nat) (h : PW pi) (he : ∀ k, k < 12 → pi2 k = pi (s k)) (hs : ∀ k, k < 12 → s k < 12) (hj : ∀ j k, j < 12 → k < 12 → s j = s k → j = k) : PW pi2 :=
  ⟨fun k hk => by rw [he k hk]; exact h.1 _ (hs k hk), fun j k q1 q2 e => by rw [he j q1, he k q2] at e; exact hj j k q1 q2 (h.2 _ _ (hs j q1) (hs k q2) e)⟩
def cpP (pi : Nat → Nat) (pp : Nat → Nat → Int32) (pi2 : Nat → Nat) (pp2 : Nat → Nat → Int32) : Nat → Nat → Nat → Int32
  | 0 => pp
  | k + 1 => va_up (cpP pi pp pi2 pp2 k) (pi k) (pp2 (pi2 k))
theorem cpP_s (pi : Nat → Nat) (pp : Nat → Nat → Int32) (pi2 : Nat → Nat) (pp2 : Nat → Nat → Int32) (k : Nat) : cpP pi pp pi2 pp2 (k + 1) = va_up (cpP pi pp pi2 pp2 k) (pi k) (pp2 (pi2 k)) := rfl
theorem cpP_eq {pi : Nat → Nat} {pp : Nat → Nat → Int32} {pi2 : Nat → Nat} {pp2 : Nat → Nat → Int32} (h : PW pi) : ∀ k, k ≤ 12 → ∀ j, j < k → cpP pi pp pi2 pp2 k (pi j) = pp2 (pi2 j)
  | 0, _, j, hj => absurd hj (by omega)
  | k + 1, hk, j, hj => by
    rw [cpP_s, va_up]
    by_cases e : j = k
    · subst e; rw [if_pos rfl]
    · rw [if_neg (fun q => e (h.2 _ _ (by omega) (by omega) q))]
      exact cpP_eq h k (by omega) j (by omega)
theorem va_cpy3 (f g : Nat → Int32) {j : Nat} (hj : j < 3) : va_cpy f g 0 0 3 j = f j := by
  unfold va_cpy
  rw [if_pos (by omega)]
  congr 1; omega
set_option maxHeartbeats 400000 in
set_option maxRecDepth 100000 in
theorem cn_X5_copyFrom {h : ax_H} {n : Nat} {B : Nat} {sp : Nat → Int32} {pi : Nat → Nat} {pp : Nat → Nat → Int32} {w : Int32} {nw : Nat → Int32} {bz hd dw : Int32} {B2 : Nat} {sp2 : Nat → Int32} {pi2 : Nat → Nat} {pp2 : Nat → Nat → Int32} {nw2 : Nat → Int32} {bz2 hd2 dw2 : Int32} (m : Nat) (hm : m ≤ 12) (hS2 : SF h B2 sp2 pi2 pp2 (nI m) nw2 bz2 hd2 dw2) (hP : PW pi) (hP2 : PW pi2) (hdj : B + 16 ≤ B2 ∨ B2 + 16 ≤ B) (hbz : bz = 0 ∨ bz = 1) (hhd : hd = 0 ∨ hd = 1) (hb2 : bz2 = 0 ∨ bz2 = 1) (hd3 : hd2 = 0 ∨ hd2 = 1) : ax_C yX5_copyFrom cX5_copyFrom 3 none 1 0 0 [.ref B, .ref B2] (stU h B sp pi pp w nw bz hd dw) n (kv (stU h B (va_cpy sp2 sp 0 0 3) pi (cpP pi pp pi2 pp2 m) (nI m) (nw2) (bz2) (hd2) (dw2)) n) := by
  refine ax_C.go RX5 "copyFrom" [some (.ref B), some (.ref B2), none] rfl rfl pn_X5 (lb rfl) rfl (fun l G cy bs => ?_)
  have hp1 := hP.1
  have lp : ∀ (d k : Nat), k + d = m → ∀ p1 : Nat → Nat → Int32, p1 = cpP pi pp pi2 pp2 k → ax_T l G cy bs (ax_rm 1 0 0) RX5 "copyFrom" cX5_copyFrom 3 none (kv (stU h B (va_cpy sp2 sp 0 0 3) pi (cpP pi pp pi2 pp2 m) (nI m) (nw2) (bz2) (hd2) (dw2)) n) 0 0 16 [some (.ref B), some (.ref B2), some (.int (nI k))] [] (stU h B (va_cpy sp2 sp 0 0 3) pi (p1) w nw bz hd dw) n 0 0 := by
    intro d
    induction d with
    | zero =>
      intro k hk p1 hp
      obtain rfl : k = m := by omega
      subst hp
      refine il2 dX5_copyFrom_16 ?_
      refine al1 dX5_copyFrom_17 ?_
      refine g_X5_21 dX5_copyFrom_18 (su_o (by omega) hS2.1) ?_
      refine xt_icmp_ge 45 dX5_copyFrom_21 rfl (fun _ => ?_) (fun q => absurd (nI_le (Nat.le_refl _) (by omega)) q)
      refine al0 dX5_copyFrom_45 ?_
      refine al1 dX5_copyFrom_46 ?_
      refine g_X5_21 dX5_copyFrom_47 (su_o (by omega) hS2.1) ?_
      refine p_X5_21 dX5_copyFrom_50 su_0 ?_
      refine xt_heq su_q0 ?_
      refine al0 dX5_copyFrom_53 ?_
      refine g_X5_26 dX5_copyFrom_54 su_0 ?_
      refine al1 dX5_copyFrom_57 ?_
      refine g_X5_26 dX5_copyFrom_58 (su_o (by omega) hS2.1) ?_
      refine s_X5_46 dX5_copyFrom_61 (cn_X2_copyFrom su_3 (su_o (by omega) hS2.2.2.2.1) (by omega)) su_3 ⟨lb rfl, lb rfl, lb rfl, lb rfl⟩ ?_
      refine xt_heq su_q3 ?_
      refine al0 dX5_copyFrom_64 ?_
      refine al1 dX5_copyFrom_65 ?_
      refine g_X5_30 dX5_copyFrom_66 (su_o (by omega) hS2.1) ?_
      refine p_X5_30 dX5_copyFrom_69 hb2 su_0 ?_
      refine xt_heq su_q0 ?_
      refine al0 dX5_copyFrom_72 ?_
      refine al1 dX5_copyFrom_73 ?_
      refine g_X5_34 dX5_copyFrom_74 (su_o (by omega) hS2.1) ?_
      refine p_X5_34 dX5_copyFrom_77 hd3 su_0 ?_
      refine xt_heq su_q0 ?_
      refine al0 dX5_copyFrom_80 ?_
      refine al1 dX5_copyFrom_81 ?_
      refine g_X5_37 dX5_copyFrom_82 (su_o (by omega) hS2.1) ?_
      refine p_X5_37 dX5_copyFrom_85 su_0 ?_
      refine xt_heq su_q0 ?_
      exact xt_ret dX5_copyFrom_88 rfl (lb rfl) (lb rfl) ⟨rfl, rfl, rfl⟩
    | succ d ih =>
      intro k hk p1 hp
      have q1 := hP.1 k (by omega)
      have q2 := hP2.1 k (by omega)
      refine il2 dX5_copyFrom_16 ?_
      refine al1 dX5_copyFrom_17 ?_
      refine g_X5_21 dX5_copyFrom_18 (su_o (by omega) hS2.1) ?_
      refine xt_icmp_ge 45 dX5_copyFrom_21 rfl (fun q => absurd q (nI_ge (by omega) (by omega))) (fun _ => ?_)
      refine al0 dX5_copyFrom_24 ?_
      refine g_X5_17 dX5_copyFrom_25 su_0 ?_
      refine il2 dX5_copyFrom_28 ?_
      refine xt_aald3 (k) su_2 (by omega) rfl (by decide) rfl dX5_copyFrom_29 ?_
      refine al1 dX5_copyFrom_30 ?_
      refine g_X5_17 dX5_copyFrom_31 (su_o (by omega) hS2.1) ?_
      refine il2 dX5_copyFrom_34 ?_
      refine xt_aald3 (k) (su_o (by omega) hS2.2.2.1) (by omega) rfl (by decide) rfl dX5_copyFrom_35 ?_
      refine s_X5_46 dX5_copyFrom_36 (cn_X2_copyFrom (su_p (i := pi (k)) (by omega)) (su_o (by omega) (hS2.2.2.2.2 (pi2 (k)) (by omega))) (by omega)) (su_p (i := pi (k)) (by omega)) ⟨lb rfl, lb rfl, lb rfl, lb rfl⟩ ?_
      refine xt_heq (su_qp (i := pi (k)) (by omega)) ?_
      refine inc2 (nI (k + 1)) dX5_copyFrom_39 (nI_1 _) (by decide) rfl ?_
      refine xt_goto 16 dX5_copyFrom_42 rfl ?_
      exact ih (k + 1) (by omega) _ (by rw [cpP_s, ← hp])
  refine al1 dX5_copyFrom_0 ?_
  refine g_X5_9 dX5_copyFrom_1 (su_o (by omega) hS2.1) ?_
  refine xt_iconst (0) dX5_copyFrom_4 rfl ?_
  refine al0 dX5_copyFrom_5 ?_
  refine g_X5_9 dX5_copyFrom_6 su_0 ?_
  refine xt_iconst (0) dX5_copyFrom_9 rfl ?_
  refine xt_iconst (3) dX5_copyFrom_10 rfl ?_
  refine s_X5_40i (0) (0) (3) dX5_copyFrom_11 (su_o (by omega) hS2.2.1) su_1 rfl rfl rfl (by omega) (by omega) ⟨by decide, by decide⟩ ⟨lb rfl, lb rfl⟩ ?_
  refine xt_heq su_q1 ?_
  refine xt_iconst (0) dX5_copyFrom_14 rfl ?_
  refine is2 dX5_copyFrom_15 (by decide) rfl ?_
  exact lp m 0 (by omega) _ rfl
theorem cr_X5_copyFrom {h : ax_H} {n B B2 m : Nat} {r : Nat → Int32} (hX : SX h B) (hS : SR h B2 r m) (hdj : B + 16 ≤ B2 ∨ B2 + 16 ≤ B) : ax_C yX5_copyFrom cX5_copyFrom 3 none 1 0 0 [.ref B, .ref B2] h n (kP (fun h2 => SR h2 B r m ∧ fr B 16 h h2) n) := by
  obtain ⟨sp, pi, pp, w, nw, bz, hd, dw, h1, h2, h3, h4⟩ := hX
  obtain ⟨sp2, pi2, pp2, nw2, bz2, hd2, dw2, k1, k2, ⟨s1, s2, s3, s4, s5, s6⟩, k4⟩ := hS
  have hm := k4.1.2.1
  refine ((cn_X5_copyFrom m hm k1 h2 k2 hdj h3 h4 s5.b s6).heq (su_id h1).symm).wk ?_
  rintro v h' n' ⟨rfl, rfl, rfl⟩
  refine ⟨rfl, ⟨⟨_, pi, _, nw2, bz2, hd2, dw2, SF_su, h2, ⟨fun j hj => by rw [va_cpy3 _ _ hj]; exact s1 j hj, s2, s3, fun k hk j hj => ?_, s5, s6⟩, k4⟩, fr_su⟩, rfl⟩
  rw [cpP_eq h2 m hm k hk]
  exact s4 k hk j hj
