/-! a step of a piece: the class against the reference -/
theorem ab_sz (x : Int32) : ab x = rSz x := by
  unfold ab rSz
  by_cases hx : 0 ≤ x
  · rw [if_pos hx, if_neg (by rw [fb_lt]; rw [fb_le] at hx; omega)]
  · rw [if_neg hx, if_pos (by rw [fb_lt]; rw [fb_le] at hx; omega), Int32.zero_sub]
theorem way_eq {q r : Nat → Int32} (h : NQ q r) {i : Nat} (hi : i < 3) : wayQ q (nI i) = r (6 + i) := by
  obtain ⟨h0, h1, h2, h3, -⟩ := h
  unfold wayQ
  rcases (show i = 0 ∨ i = 1 ∨ i = 2 by omega) with rfl | rfl | rfl
  · rw [if_pos (by decide)]; exact h1
  · rw [if_neg (by decide), if_pos (by decide)]; exact h2
  · rw [if_neg (by decide), if_neg (by decide)]; exact h3
/-- what a line's or an even one's numbers are -/
theorem line_int {r : Nat → Int32} {d : Nat} (hn : NW r d) (h3 : ¬ 3 ≤ r 5) : (-15 ≤ (r 6).toInt ∧ (r 6).toInt ≤ 15) ∧ (-15 ≤ (r 7).toInt ∧ (r 7).toInt ≤ 15) ∧ (-15 ≤ (r 8).toInt ∧ (r 8).toInt ≤ 15) ∧ 1 ≤ rTn (r 6) (r 7) (r 8) ∧ rTn (r 6) (r 7) (r 8) ≤ 15 := by
  have hi := okP_int (k := r 5) (a := r 6) (b := r 7) (c := r 8) hn.1
  rw [fb_le, ti_3] at h3
  rcases hi.2 with q | q
  · omega
  · unfold rTn; omega
theorem rT_eq {r : Nat → Int32} {d : Nat} (hn : NW r d) (h3 : ¬ 3 ≤ r 5) : rT r = nI (rTn (r 6) (r 7) (r 8)) := by
  have hi := line_int hn h3
  exact rTurns_eq (a := r 6) (b := r 7) (c := r 8) (by omega) (by omega) (by omega)
theorem turns_r {q r : Nat → Int32} {d : Nat} (h : NQ q r) (hn : NW r d) (h3 : ¬ 3 ≤ r 5) : turnsQ q = rT r := by
  have hi := line_int hn h3
  rw [rT_eq hn h3]
  obtain ⟨h0, h1, h2, h33, -⟩ := h
  rw [turnsQ_eq (by rw [h1]; omega) (by rw [h2]; omega) (by rw [h33]; omega), h1, h2, h33]
theorem gone_eq {q r : Nat → Int32} {d : Nat} (h : NQ q r) (hn : NW r d) (h3 : ¬ 3 ≤ r 5) {i : Nat} (hi : i < 3) (k : Int32) : goneQ q k (nI i) = rGone (r 5) (r (6 + i)) (rT r) k := by
  unfold goneQ rGone
  have hl := line_int hn h3
  have e : farQ q k (nI i) = rFar (r 5) (r (6 + i)) (rT r) k := by
    unfold farQ rFar
    rw [way_eq h hi, h.1, ab_sz]
    by_cases k1 : r 5 = 1
    · rw [if_pos k1, if_pos k1]
      unfold mn
      by_cases a : rSz (r (6 + i)) < k
      · rw [if_pos a, if_pos (by rw [fb_le]; rw [fb_lt] at a; omega)]
      · rw [if_neg a]
        by_cases b : rSz (r (6 + i)) ≤ k
        · rw [if_pos b]
          rw [fb_eq]; rw [fb_lt] at a; rw [fb_le] at b; omega
        · rw [if_neg b]
    · rw [if_neg k1, if_neg k1]
      unfold nearQ
      rw [turns_r h hn h3, if_pos (by rw [rT_eq hn h3]; rw [fb_lt, ti_0, nI_toInt (by omega)]; omega), Int32.mul_assoc]
  rw [way_eq h hi, e]
def AD (q2 f2 r : Nat → Int32) : Prop := NQ q2 (sDone (sgo r (z3 (fun _ => 0))).1) ∧ ∀ i, i < 3 → f2 i = (sgo r (z3 (fun _ => 0))).2 i ∧ (sgo r (z3 (fun _ => 0))).1 i = r i + f2 i
theorem lnS_at (t k : Int32) (r mv : Nat → Int32) : ∀ j, j ≤ 3 → ∀ i, i < j → (lnS t k r mv j).2 i = mv i + (rGone (r 5) (r (6 + i)) t k - rGone (r 5) (r (6 + i)) t (k - 1)) ∧ (lnS t k r mv j).1 i = r i + (rGone (r 5) (r (6 + i)) t k - rGone (r 5) (r (6 + i)) t (k - 1))
  | 0, _, i, hi => absurd hi (by omega)
  | j + 1, hj, i, hi => by
    have k5 := lnS_keep t k r mv (c := 5) j (by omega)
    have k6 := lnS_keep t k r mv (c := 6 + j) j (by omega)
    have kj := lnS_keep t k r mv (c := j) j (by omega)
    have m2 : ∀ c, j ≤ c → (lnS t k r mv j).2 c = mv c := by
      have : ∀ j c, j ≤ c → (lnS t k r mv j).2 c = mv c := by
        intro j
        induction j with
        | zero => intro c _; rfl
        | succ j ih =>
          intro c hc
          show upd (lnS t k r mv j).2 j _ c = _
          rw [upd, if_neg (by omega)]
          exact ih c (by omega)
      exact this j
    show upd (lnS t k r mv j).2 j _ i = _ ∧ upd (lnS t k r mv j).1 j _ i = _
    rw [k5, k6]
    by_cases e : i = j
    · subst e
      simp only [upd, if_true]
      rw [m2 i (Nat.le_refl _), kj]
      exact ⟨rfl, rfl⟩
    · simp only [upd, if_neg e]
      exact lnS_at t k r mv j (by omega) i (by omega)
theorem lnF_at (q f : Nat → Int32) : ∀ j i, i < j → lnF q f j i = goneQ q (q 4 + 1) (nI i) - goneQ q (q 4) (nI i)
  | 0, i, hi => absurd hi (by omega)
  | j + 1, i, hi => by
    rw [lnF_s, upd]
    by_cases e : i = j
    · subst e; rw [if_pos rfl]
    · rw [if_neg e]; exact lnF_at q f j i (by omega)
/-- what a step of NOW leaves of the row's own numbers -/
theorem NQ_dn {q2 q r : Nat → Int32} (h : NQ q r) (hk : ¬ 3 ≤ r 5) (e : ∀ j, j < 9 → j ≠ 4 → j ≠ 5 → j ≠ 6 → q2 j = q j) (e4 : q2 4 = q 4 + 1) (hev : r 5 = 2 → EV q2) : NQ q2 (sDone (sgo r (z3 (fun _ => 0))).1) := by
  obtain ⟨h0, h1, h2, h3, h4, h7, h8, h9, h10⟩ := h
  have ek : ∀ c, 5 ≤ c → c ≠ 9 → sDone (sgo r (z3 (fun _ => 0))).1 c = r c := fun c a b => by
    unfold sDone; rw [upd, if_neg b]; exact sgo_uv r _ hk (by omega)
  have e9 : sDone (sgo r (z3 (fun _ => 0))).1 9 = r 9 + 1 := by
    unfold sDone; rw [upd, if_pos rfl, sgo_uv r _ hk (by omega)]
  refine ⟨?_, ?_, ?_, ?_, ?_, ?_, ?_, ?_, fun k5 => hev ?_⟩
  · rw [ek _ (by omega) (by omega), e _ (by omega) (by omega) (by omega) (by omega)]; exact h0
  · rw [ek _ (by omega) (by omega), e _ (by omega) (by omega) (by omega) (by omega)]; exact h1
  · rw [ek _ (by omega) (by omega), e _ (by omega) (by omega) (by omega) (by omega)]; exact h2
  · rw [ek _ (by omega) (by omega), e _ (by omega) (by omega) (by omega) (by omega)]; exact h3
  · rw [e9, e4, h4]
  · rw [ek _ (by omega) (by omega), e _ (by omega) (by omega) (by omega) (by omega)]; exact h7
  · rw [ek _ (by omega) (by omega), e _ (by omega) (by omega) (by omega) (by omega)]; exact h8
  · rw [ek _ (by omega) (by omega)]; exact h9
  · rw [ek _ (by omega) (by omega)] at k5; exact k5
theorem adv_l {q r f : Nat → Int32} {d : Nat} (h : NQ q r) (hn : NW r d) (hk : ¬ 2 ≤ r 5) : AD (dn1 q) (lnF q (z3 f) 3) r := by
  have hk3 : ¬ 3 ≤ r 5 := fun x => hk (Int32.le_trans (show (2 : Int32) ≤ 3 by decide) x)
  refine ⟨NQ_dn h hk3 (fun j _ a _ _ => by simp [dn1, upd, a]) (by simp [dn1, upd]) (fun e => absurd (by rw [e]; decide) hk), fun i hi => ?_⟩
  have e : sgo r (z3 (fun _ => 0)) = lnS (rT r) (r 9 + 1) r (z3 (fun _ => 0)) 3 := by unfold sgo; rw [if_neg hk]
  obtain ⟨a1, a2⟩ := lnS_at (rT r) (r 9 + 1) r (z3 (fun _ => 0)) 3 (Nat.le_refl _) i hi
  have h4 := h.2.2.2.2.1
  have e3 : r 9 + 1 - 1 = r 9 := Int32.add_sub_cancel _ _
  rw [e, a1, a2, lnF_at q _ 3 i hi, gone_eq h hn hk3 hi, gone_eq h hn hk3 hi, z3_0 _ hi, Int32.zero_add, h4, e3]
  exact ⟨rfl, rfl⟩
/-! arcs -/
theorem csg_sg (x : Int32) : csg x = rSg x := by
  unfold csg rSg
  by_cases h0 : x = 0
  · subst h0; decide
  · rw [if_neg h0]
    by_cases h1 : 0 < x
    · rw [if_pos h1, if_pos h1]
    · rw [if_neg h1, if_neg h1, if_pos]
      rw [fb_lt, ti_0] at *; rw [fb_eq, ti_0] at h0; omega
theorem sg_neg {x : Int32} (hx : x.toInt.natAbs ≤ 1000) : rSg (-x) = - rSg x := by
  have e : (-x).toInt = -x.toInt := ti_neg (by omega)
  unfold rSg
  simp only [fb_lt, ti_0, e]
  by_cases h1 : 0 < x.toInt
  · rw [if_neg (by omega), if_pos (by omega), if_pos h1]
  · rw [if_neg h1]
    by_cases h2 : x.toInt < 0
    · rw [if_pos (by omega), if_pos h2]; decide
    · rw [if_neg (by omega), if_neg (by omega), if_neg h2]; decide
theorem off_eq {q r : Nat → Int32} (h : NQ q r) (x y : Int32) : offQ q x y = aOff r x y := by
  obtain ⟨h0, h1, h2, h3, h4, h7, h8, -⟩ := h
  unfold offQ aOff
  rw [ab_sz, h1, h2, h7, h8]
  congr 1
  all_goals try rw [Int32.sub_sub]
theorem cD_eq (dx dy ox oy ob : Int32) : (cD dx dy ox oy ob).1 = (if aB3 dx dy ox oy ob = 2 then 0 else dx) ∧ (cD dx dy ox oy ob).2 = (if aB3 dx dy ox oy ob = 1 then 0 else dy) := by
  unfold cD cA aB3 aB2 aL2 aI2 aB1 aL1 aIs
  by_cases h1 : dx = 0
  · subst h1
    by_cases h2 : dy = 0
    · subst h2; simp
    · simp [h2]
  · by_cases h2 : dy = 0
    · subst h2; simp [h1]
    · by_cases a : oy < ox
      · have a' : ¬ ox ≤ oy := by rw [fb_le]; rw [fb_lt] at a; omega
        by_cases b : ob < oy
        · have b' : ¬ oy ≤ ob := by rw [fb_le]; rw [fb_lt] at b; omega
          simp [h1, h2, a, a', b, b']
        · have b' : oy ≤ ob := by rw [fb_le]; rw [fb_lt] at b; omega
          simp [h1, h2, a, a', b, b']
      · have a' : ox ≤ oy := by rw [fb_le]; rw [fb_lt] at a; omega
        by_cases c : ob < ox
        · have c' : ¬ ox ≤ ob := by rw [fb_le]; rw [fb_lt] at c; omega
          have b : ob < oy := by rw [fb_lt] at *; rw [fb_le] at a'; omega
          simp [h1, h2, a, a', b, c, c']
        · have c' : ox ≤ ob := by rw [fb_le]; rw [fb_lt] at c; omega
          simp [h1, h2, a, a', c, c']
theorem cM_eq {q r : Nat → Int32} {d : Nat} (h : NQ q r) (hn : NW r d) (h3 : 3 ≤ r 5) : (cM q).1 = aX r ∧ (cM q).2 = aY r := by
  have hb := hn.2.2.2 h3
  have hst : stAt r 5 ≤ 99 := (rSteps_eq hn.1).2.2
  have hd := hn.2.2.1
  have hx : cdx q = aDx r := by
    unfold cdx aDx
    rw [h.1, h.2.2.2.2.2.2.1, csg_sg, csg_sg, sg_neg (by omega)]
    by_cases e : r 5 = 3
    · rw [if_pos e, if_pos e, Int32.neg_mul, Int32.one_mul]
    · rw [if_neg e, if_neg e, show (-(-1) : Int32) = 1 by decide, Int32.one_mul]
  have hy : cdy q = aDy r := by
    unfold cdy aDy
    rw [h.1, h.2.2.2.2.2.1, csg_sg, csg_sg, sg_neg (by omega)]
    by_cases e : r 5 = 3
    · rw [if_pos e, if_pos e, Int32.one_mul]
    · rw [if_neg e, if_neg e, Int32.neg_mul, Int32.one_mul]
  unfold cM aX aY aBest
  rw [hx, hy, off_eq h, off_eq h, off_eq h]
  exact cD_eq _ _ _ _ _
theorem adv_a {q r f : Nat → Int32} {d : Nat} (h : NQ q r) (hn : NW r d) (hk : 3 ≤ r 5) : AD (dn1 (arcQ q)) (upd (upd (z3 f) 0 (cM q).1) 1 (cM q).2) r := by
  obtain ⟨e1, e2⟩ := cM_eq h hn hk
  have h2 : 2 ≤ r 5 := Int32.le_trans (show (2 : Int32) ≤ 3 by decide) hk
  have hne : ¬ r 5 = 2 := fun e => by rw [e] at hk; exact absurd hk (by decide)
  have e : sgo r (z3 (fun _ => 0)) = arS r (z3 (fun _ => 0)) := by unfold sgo; rw [if_pos h2, if_neg hne]
  unfold AD
  rw [e, e1, e2]
  obtain ⟨h0, h1, h2, h3, h4, h7, h8, h9, h10⟩ := h
  refine ⟨?_, fun i hi => ?_⟩
  · refine ⟨?_, ?_, ?_, ?_, ?_, ?_, ?_, ?_, fun k5 => absurd ?_ hne⟩
    · simp [dn1, arcQ, upd, sDone, arS, arR]; exact h0
    · simp [dn1, arcQ, upd, sDone, arS, arR]; exact h1
    · simp [dn1, arcQ, upd, sDone, arS, arR]; exact h2
    · simp [dn1, arcQ, upd, sDone, arS, arR]; exact h3
    · simp [dn1, arcQ, upd, sDone, arS, arR]; exact h4
    · simp [dn1, arcQ, upd, sDone, arS, arR, e1]; exact h7
    · simp [dn1, arcQ, upd, sDone, arS, arR, e2]; exact h8
    · simp [upd, sDone, arS, arR]; exact h9
    · simpa [upd, sDone, arS, arR] using k5
  · rcases (show i = 0 ∨ i = 1 ∨ i = 2 by omega) with rfl | rfl | rfl
    · simp [upd, arS, arR, z3]
    · simp [upd, arS, arR, z3]
    · simp [upd, arS, arR, z3]
/-! even ones -/
def gN (w t k : Nat) : Nat := (2 * k * w + t - 1) / (2 * t)
theorem gN_0 : ∀ t, t < 16 → ∀ w, w < 16 → gN w t 0 = 0 := by decide +kernel
theorem gN_t : ∀ t, t < 16 → 0 < t → ∀ w, w < 16 → gN w t t = w := by decide +kernel
theorem gN_s : ∀ t, t < 16 → 0 < t → ∀ w, w ≤ t → ∀ k, k < t → gN w t (k + 1) = gN w t k ∨ gN w t (k + 1) = gN w t k + 1 := by decide +kernel
theorem gN_m : ∀ t, t < 16 → 0 < t → ∀ k, k < t → gN t t (k + 1) = gN t t k + 1 := by decide +kernel
theorem gN_le : ∀ t, t < 16 → 0 < t → ∀ w, w ≤ t → ∀ k, k ≤ t → gN w t k ≤ 15 := by decide +kernel
theorem far_nat {x w : Int32} {t k : Nat} (hx : ¬ x = 1) (hw : -15 ≤ w.toInt ∧ w.toInt ≤ 15) (ht : 0 < t) (ht2 : t < 16) (hk : k ≤ t) : rFar x w (nI t) (nI k) = nI (gN w.toInt.natAbs t k) := by
  unfold rFar gN
  rw [if_neg hx, rSz_eq (by omega) (by omega)]
  have hb : 2 * k * w.toInt.natAbs ≤ 2 * 15 * 15 := Nat.mul_le_mul (by omega) (by omega)
  rw [show (2 : Int32) = nI 2 from rfl, show (1 : Int32) = nI 1 from rfl, pk_mul, pk_mul, pk_mul, nI_add, pk_sub (by omega)]
  exact pk_div (by omega) (by omega) (by omega)
