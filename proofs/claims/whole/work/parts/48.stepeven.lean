/-! even ones: the class's turn and axis against the reference's count -/
abbrev wN (r : Nat → Int32) (i : Nat) : Nat := (r (6 + i)).toInt.natAbs
abbrev tN (r : Nat → Int32) : Nat := rTn (r 6) (r 7) (r 8)
theorem wN_int {r : Nat → Int32} {d : Nat} (hn : NW r d) (h2 : r 5 = 2) {i : Nat} (hi : i < 3) : (-15 ≤ (r (6 + i)).toInt ∧ (r (6 + i)).toInt ≤ 15) ∧ wN r i ≤ tN r ∧ 1 ≤ tN r ∧ tN r < 16 := by
  have hl := line_int hn (by rw [h2]; decide)
  have e : tN r = max (max (wN r 0) (wN r 1)) (wN r 2) := rfl
  have t1 : 1 ≤ tN r := hl.2.2.2.1
  have t2 : tN r ≤ 15 := hl.2.2.2.2
  rcases (show i = 0 ∨ i = 1 ∨ i = 2 by omega) with rfl | rfl | rfl
  · exact ⟨hl.1, by omega, t1, Nat.lt_succ_of_le t2⟩
  · exact ⟨hl.2.1, by omega, t1, Nat.lt_succ_of_le t2⟩
  · exact ⟨hl.2.2.1, by omega, t1, Nat.lt_succ_of_le t2⟩
/-- by how much an axis goes in a turn -/
def dE (r : Nat → Int32) (k i : Nat) : Int32 := rGone 2 (r (6 + i)) (rT r) (nI k) - rGone 2 (r (6 + i)) (rT r) (nI k - 1)
theorem aeB_dE {q r : Nat → Int32} {d : Nat} (h : NQ q r) (hn : NW r d) (h2 : r 5 = 2) (k : Nat) {i : Nat} (hi : i < 3) : aeB q (nI k) i = dE r k i := by
  have h3 : ¬ 3 ≤ r 5 := by rw [h2]; decide
  unfold aeB dE
  rw [gone_eq h hn h3 hi, gone_eq h hn h3 hi, h2]
theorem dE_zero {r : Nat → Int32} {d : Nat} (hn : NW r d) (h2 : r 5 = 2) {k i : Nat} (hi : i < 3) (hk : k < tN r) : dE r (k + 1) i = 0 ↔ gN (wN r i) (tN r) (k + 1) = gN (wN r i) (tN r) k := by
  obtain ⟨a1, a2, a3, a4⟩ := wN_int hn h2 hi
  have b1 := gN_le (tN r) a4 (by omega) (wN r i) a2 (k + 1) (by omega)
  have b2 := gN_le (tN r) a4 (by omega) (wN r i) a2 k (by omega)
  unfold dE rGone
  rw [rT_eq hn (by rw [h2]; decide), nI_pred, far_nat (by decide) a1 (by omega) a4 (by omega), far_nat (by decide) a1 (by omega) a4 (by omega)]
  have key : ∀ a b : Nat, a < 1000 → b < 1000 → ((nI a - nI b = 0) ↔ a = b) := by
    intro a b ha hb
    constructor
    · intro e
      have : nI a = nI b := by
        have := congrArg (fun z => z + nI b) e
        simpa using this
      exact (nI_eq (by omega) (by omega)).mp this
    · intro e; rw [e]; exact Int32.sub_self _
  by_cases hw : 0 ≤ r (6 + i)
  · rw [if_pos hw, if_pos hw]; exact key (gN (wN r i) (tN r) (k + 1)) (gN (wN r i) (tN r) k) (by omega) (by omega)
  · rw [if_neg hw, if_neg hw]
    rw [show -nI (gN (wN r i) (tN r) (k + 1)) - -nI (gN (wN r i) (tN r) k) = nI (gN (wN r i) (tN r) k) - nI (gN (wN r i) (tN r) (k + 1)) by
      rw [Int32.sub_neg, Int32.add_comm, ← Int32.sub_eq_add_neg]]
    rw [key _ _ (by omega) (by omega)]
    exact ⟨fun e => e.symm, fun e => e.symm⟩
theorem cnE_s (q : Nat → Int32) (i : Nat) : cnE q (i + 1) = cnE q i + (if aeB q (nI (i / 3 + 1)) (i % 3) = 0 then 0 else 1) := rfl
theorem cnE_mono (q : Nat → Int32) : ∀ i n, cnE q i ≤ cnE q (i + n) ∧ cnE q (i + n) ≤ cnE q i + n
  | i, 0 => ⟨Nat.le_refl _, Nat.le_refl _⟩
  | i, n + 1 => by
    have := cnE_mono q i n
    rw [← Nat.add_assoc, cnE_s]
    split <;> omega
theorem cnE_3 {q r : Nat → Int32} {d : Nat} (h : NQ q r) (hn : NW r d) (h2 : r 5 = 2) : ∀ k, k ≤ tN r → cnE q (3 * k) = gN (wN r 0) (tN r) k + gN (wN r 1) (tN r) k + gN (wN r 2) (tN r) k
  | 0, _ => by
    obtain ⟨-, a2, a3, a4⟩ := wN_int hn h2 (i := 0) (by omega)
    obtain ⟨-, b2, -⟩ := wN_int hn h2 (i := 1) (by omega)
    obtain ⟨-, c2, -⟩ := wN_int hn h2 (i := 2) (by omega)
    rw [gN_0 _ a4 _ (by omega), gN_0 _ a4 _ (by omega), gN_0 _ a4 _ (by omega)]
    rfl
  | k + 1, hk => by
    have ih := cnE_3 h hn h2 k (by omega)
    obtain ⟨-, a2, a3, a4⟩ := wN_int hn h2 (i := 0) (by omega)
    obtain ⟨-, b2, -⟩ := wN_int hn h2 (i := 1) (by omega)
    obtain ⟨-, c2, -⟩ := wN_int hn h2 (i := 2) (by omega)
    have g0 := gN_s _ a4 (by omega) _ a2 k (by omega)
    have g1 := gN_s _ a4 (by omega) _ b2 k (by omega)
    have g2 := gN_s _ a4 (by omega) _ c2 k (by omega)
    have e : ∀ i, i < 3 → (if aeB q (nI ((3 * k + i) / 3 + 1)) ((3 * k + i) % 3) = 0 then 0 else 1) = (if gN (wN r i) (tN r) (k + 1) = gN (wN r i) (tN r) k then 0 else 1) := by
      intro i hi
      rw [show (3 * k + i) / 3 = k by omega, show (3 * k + i) % 3 = i by omega, aeB_dE h hn h2 _ hi]
      by_cases z : dE r (k + 1) i = 0
      · rw [if_pos z, if_pos ((dE_zero hn h2 hi (by omega)).mp z)]
      · rw [if_neg z, if_neg (fun y => z ((dE_zero hn h2 hi (by omega)).mpr y))]
    have e0 : (if aeB q (nI (3 * k / 3 + 1)) (3 * k % 3) = 0 then 0 else 1) = (if gN (wN r 0) (tN r) (k + 1) = gN (wN r 0) (tN r) k then 0 else 1) := e 0 (by omega)
    have e1 := e 1 (by omega)
    have e2 := e 2 (by omega)
    rw [show 3 * (k + 1) = 3 * k + 1 + 1 + 1 by omega, cnE_s, cnE_s, cnE_s, ih, e0, e1, e2]
    split <;> split <;> split <;> omega
theorem cnE_all {q r : Nat → Int32} {d : Nat} (h : NQ q r) (hn : NW r d) (h2 : r 5 = 2) : cnE q (3 * tN r) = stAt r 5 := by
  obtain ⟨-, a2, a3, a4⟩ := wN_int hn h2 (i := 0) (by omega)
  obtain ⟨-, b2, -⟩ := wN_int hn h2 (i := 1) (by omega)
  obtain ⟨-, c2, -⟩ := wN_int hn h2 (i := 2) (by omega)
  rw [cnE_3 h hn h2 _ (Nat.le_refl _), gN_t _ a4 (by omega) _ (by omega), gN_t _ a4 (by omega) _ (by omega), gN_t _ a4 (by omega) _ (by omega)]
  show _ = stN (r 5) (r 6) (r 7) (r 8)
  unfold stN
  rw [h2, if_pos (by decide), if_pos rfl]
/-- some axis goes in every turn -/
theorem nz_max {q r : Nat → Int32} {d : Nat} (h : NQ q r) (hn : NW r d) (h2 : r 5 = 2) : ∃ x, x < 3 ∧ ∀ k, k < tN r → ¬ aeB q (nI (k + 1)) x = 0 := by
  have : ∃ x, x < 3 ∧ wN r x = tN r := by
    have e : tN r = max (max (wN r 0) (wN r 1)) (wN r 2) := rfl
    by_cases h0 : wN r 0 = tN r
    · exact ⟨0, by omega, h0⟩
    · by_cases h1 : wN r 1 = tN r
      · exact ⟨1, by omega, h1⟩
      · exact ⟨2, by omega, by omega⟩
  obtain ⟨x, hx, hw⟩ := this
  obtain ⟨-, a2, a3, a4⟩ := wN_int hn h2 hx
  refine ⟨x, hx, fun k hk => ?_⟩
  rw [aeB_dE h hn h2 _ hx, dE_zero hn h2 hx hk, hw, gN_m _ a4 (by omega) k hk]
  omega
theorem cnE_find (q : Nat → Int32) (p : Nat) : ∀ n, cnE q p < cnE q (p + n) → ∃ J, p ≤ J ∧ J < p + n ∧ (¬ aeB q (nI (J / 3 + 1)) (J % 3) = 0) ∧ cnE q J = cnE q p
  | 0, h => absurd h (by simp)
  | n + 1, h => by
    by_cases e : cnE q p < cnE q (p + n)
    · obtain ⟨J, a, b, c, d⟩ := cnE_find q p n e
      exact ⟨J, a, by omega, c, d⟩
    · have hm := cnE_mono q p n
      rw [← Nat.add_assoc, cnE_s] at h
      refine ⟨p + n, by omega, by omega, fun z => ?_, by omega⟩
      rw [if_pos z] at h; omega
theorem ev_next {q r : Nat → Int32} {d p : Nat} (h : NQ q r) (hn : NW r d) (h2 : r 5 = 2) (hp : cnE q p = d) : ∃ J, p ≤ J ∧ J < p + 3 ∧ J < 3 * tN r ∧ (¬ aeB q (nI (J / 3 + 1)) (J % 3) = 0) ∧ cnE q J = d := by
  have hd := hn.2.2.1
  rw [← cnE_all h hn h2] at hd
  have hp3 : p < 3 * tN r := by
    by_cases e : p < 3 * tN r
    · exact e
    · have := (cnE_mono q (3 * tN r) (p - 3 * tN r)).1
      rw [show 3 * tN r + (p - 3 * tN r) = p by omega] at this
      omega
  by_cases e : p + 3 ≤ 3 * tN r
  · obtain ⟨x, hx, hz⟩ := nz_max h hn h2
    obtain ⟨j, j1, j2, j3⟩ : ∃ j, p ≤ j ∧ j < p + 3 ∧ j % 3 = x := ⟨p + (x + 3 - p % 3) % 3, by omega, by omega, by omega⟩
    have hj := hz (j / 3) (by omega)
    have m1 := (cnE_mono q p (j - p)).1
    have m2 := (cnE_mono q (j + 1) (p + 3 - (j + 1))).1
    rw [show p + (j - p) = j by omega] at m1
    rw [show j + 1 + (p + 3 - (j + 1)) = p + 3 by omega, cnE_s, j3, if_neg hj] at m2
    obtain ⟨J, a, b, c, f⟩ := cnE_find q p 3 (by omega)
    exact ⟨J, a, b, by omega, c, by omega⟩
  · obtain ⟨J, a, b, c, f⟩ := cnE_find q p (3 * tN r - p) (by rw [show p + (3 * tN r - p) = 3 * tN r by omega]; omega)
    exact ⟨J, a, by omega, by omega, c, by omega⟩
theorem aeF_next (q : Nat → Int32) (J : Nat) (hJ : ¬ aeB q (nI (J / 3 + 1)) (J % 3) = 0) : ∀ L t ax, ax ≤ 3 → 1 ≤ t → 3 * (t - 1) + ax ≤ J → J < 3 * (t - 1) + ax + L → (∀ i, 3 * (t - 1) + ax ≤ i → i < J → aeB q (nI (i / 3 + 1)) (i % 3) = 0) → aeF q L (nI t) ax = (nI (J / 3 + 1), J % 3 + 1, J % 3, aeB q (nI (J / 3 + 1)) (J % 3))
  | 0, t, ax, _, _, h3, h4, _ => absurd h4 (by omega)
  | L + 1, t, ax, h1, h2, h3, h4, h5 => by
    rw [aeF]
    by_cases hx : ax < 3
    · rw [if_pos hx]
      by_cases e : J = 3 * (t - 1) + ax
      · have e1 : J / 3 + 1 = t := by omega
        have e2 : J % 3 = ax := by omega
        rw [e1, e2] at hJ ⊢
        rw [if_neg hJ]
      · have := h5 (3 * (t - 1) + ax) (Nat.le_refl _) (by omega)
        rw [show (3 * (t - 1) + ax) / 3 + 1 = t by omega, show (3 * (t - 1) + ax) % 3 = ax by omega] at this
        rw [if_pos this]
        exact aeF_next q J hJ L t (ax + 1) (by omega) h2 (by omega) (by omega) (fun i a b => h5 i (by omega) b)
    · rw [if_neg hx, nI_1]
      by_cases e : J = 3 * (t - 1) + ax
      · have e1 : J / 3 + 1 = t + 1 := by omega
        have e2 : J % 3 = 0 := by omega
        rw [e1, e2] at hJ ⊢
        rw [if_neg hJ]
      · have := h5 (3 * (t - 1) + ax) (Nat.le_refl _) (by omega)
        rw [show (3 * (t - 1) + ax) / 3 + 1 = t + 1 by omega, show (3 * (t - 1) + ax) % 3 = 0 by omega] at this
        rw [if_pos this]
        exact aeF_next q J hJ L (t + 1) 1 (by omega) (by omega) (by omega) (by omega) (fun i a b => h5 i (by omega) b)
/-- the reference behind i looks -/
def sI (q r z : Nat → Int32) (J i : Nat) : eS := if i ≤ J then (r, z, r 9 - nI (cnE q i)) else (upd r (J % 3) (r (J % 3) + aeB q (nI (J / 3 + 1)) (J % 3)), upd z (J % 3) (z (J % 3) + aeB q (nI (J / 3 + 1)) (J % 3)), r 9 - nI (cnE q i))
theorem upd_0 (r : Nat → Int32) (j : Nat) : upd r j (r j + 0) = r := by
  funext c
  rw [upd, Int32.add_zero]
  by_cases e : c = j
  · rw [if_pos e, e]
  · rw [if_neg e]
theorem sI_keep (q r z : Nat → Int32) (J i : Nat) {c : Nat} (hc : 3 ≤ c) : (sI q r z J i).1 c = r c := by
  unfold sI
  split
  · rfl
  · show upd _ _ _ c = _
    rw [upd, if_neg (by omega)]
theorem evS_I {q r z : Nat → Int32} {d J : Nat} (h : NQ q r) (hn : NW r d) (h2 : r 5 = 2) (hJ : ¬ aeB q (nI (J / 3 + 1)) (J % 3) = 0) (hd : cnE q J = d) (k j : Nat) (hj : j < 3) (hk : k < 100) : evS (rT r) (nI (k + 1)) j (sI q r z J (3 * k + j)) = sI q r z J (3 * k + j + 1) := by
  have e1 : (3 * k + j) / 3 + 1 = k + 1 := by omega
  have e2 : (3 * k + j) % 3 = j := by omega
  have ew : (sI q r z J (3 * k + j)).1 (6 + j) = r (6 + j) := sI_keep _ _ _ _ _ (by omega)
  have eb : rGone 2 ((sI q r z J (3 * k + j)).1 (6 + j)) (rT r) (nI (k + 1)) - rGone 2 ((sI q r z J (3 * k + j)).1 (6 + j)) (rT r) (nI (k + 1) - 1) = aeB q (nI (k + 1)) j := by
    rw [ew, aeB_dE h hn h2 _ hj]; rfl
  have hs := cnE_s q (3 * k + j)
  rw [e1, e2] at hs
  have hdl : d < 100 := by
    have := hn.2.2.1
    have h99 : stAt r 5 ≤ 99 := (rSteps_eq hn.1).2.2
    omega
  have hc := (cnE_mono q 0 (3 * k + j)).2
  rw [Nat.zero_add] at hc
  have hc0 : cnE q 0 = 0 := rfl
  by_cases z0 : aeB q (nI (k + 1)) j = 0
  · rw [evS_z (by rw [eb]; exact z0)]
    rw [if_pos z0] at hs
    have hs : cnE q (3 * k + j + 1) = cnE q (3 * k + j) := hs
    have hne : 3 * k + j ≠ J := fun e => hJ (by rw [← e, e1, e2]; exact z0)
    unfold sI
    rw [hs]
    by_cases hi : 3 * k + j ≤ J
    · rw [if_pos hi, if_pos (by omega)]
    · rw [if_neg hi, if_neg (by omega)]
  · rw [evS_n (by rw [eb]; exact z0), eb]
    rw [if_neg z0] at hs
    have hlast : r 9 - nI (cnE q (3 * k + j)) - 1 = r 9 - nI (cnE q (3 * k + j) + 1) := by
      rw [Int32.sub_sub, nI_1]
    rcases Nat.lt_trichotomy (3 * k + j) J with hi | hi | hi
    · have hm := (cnE_mono q (3 * k + j + 1) (J - (3 * k + j + 1))).1
      rw [show 3 * k + j + 1 + (J - (3 * k + j + 1)) = J by omega] at hm
      have es : sI q r z J (3 * k + j) = (r, z, r 9 - nI (cnE q (3 * k + j))) := by unfold sI; rw [if_pos (by omega)]
      have et : sI q r z J (3 * k + j + 1) = (r, z, r 9 - nI (cnE q (3 * k + j + 1))) := by unfold sI; rw [if_pos (by omega)]
      rw [es, et]
      have hl : ¬ r 9 - nI (cnE q (3 * k + j)) = 0 := by
        rw [hn.2.1, pk_sub (by omega)]; exact nI_ne0 (by omega) (by omega)
      simp only [if_neg hl, upd_0]
      rw [hlast, hs]
    · have es : sI q r z J (3 * k + j) = (r, z, r 9 - nI (cnE q (3 * k + j))) := by unfold sI; rw [if_pos (by omega)]
      have et : sI q r z J (3 * k + j + 1) = (upd r (J % 3) (r (J % 3) + aeB q (nI (J / 3 + 1)) (J % 3)), upd z (J % 3) (z (J % 3) + aeB q (nI (J / 3 + 1)) (J % 3)), r 9 - nI (cnE q (3 * k + j + 1))) := by unfold sI; rw [if_neg (by omega)]
      rw [es, et]
      have hl : r 9 - nI (cnE q (3 * k + j)) = 0 := by
        rw [hn.2.1, hi, hd]; exact Int32.sub_self _
      simp only [if_pos hl]
      rw [hlast, hs, ← hi, e1, e2]
    · have es : sI q r z J (3 * k + j) = (upd r (J % 3) (r (J % 3) + aeB q (nI (J / 3 + 1)) (J % 3)), upd z (J % 3) (z (J % 3) + aeB q (nI (J / 3 + 1)) (J % 3)), r 9 - nI (cnE q (3 * k + j))) := by unfold sI; rw [if_neg (by omega)]
      have et : sI q r z J (3 * k + j + 1) = (upd r (J % 3) (r (J % 3) + aeB q (nI (J / 3 + 1)) (J % 3)), upd z (J % 3) (z (J % 3) + aeB q (nI (J / 3 + 1)) (J % 3)), r 9 - nI (cnE q (3 * k + j + 1))) := by unfold sI; rw [if_neg (by omega)]
      have hm := (cnE_mono q (J + 1) (3 * k + j - (J + 1))).1
      rw [show J + 1 + (3 * k + j - (J + 1)) = 3 * k + j by omega, cnE_s, if_neg hJ] at hm
      rw [es, et]
      have hl : ¬ r 9 - nI (cnE q (3 * k + j)) = 0 := by
        rw [hn.2.1]
        intro e
        have : nI d = nI (cnE q (3 * k + j)) := by
          have := congrArg (fun z => z + nI (cnE q (3 * k + j))) e
          simpa using this
        have := (nI_eq (by omega) (by omega)).mp this
        omega
      simp only [if_neg hl, upd_0]
      rw [hlast, hs]
theorem evB_I {q r z : Nat → Int32} {d J : Nat} (h : NQ q r) (hn : NW r d) (h2 : r 5 = 2) (hJ : ¬ aeB q (nI (J / 3 + 1)) (J % 3) = 0) (hd : cnE q J = d) : ∀ k, k < 100 → evB (rT r) (r, z, r 9) k = sI q r z J (3 * k)
  | 0, _ => by
    show (r, z, r 9) = _
    unfold sI
    rw [if_pos (by omega)]
    show _ = (r, z, r 9 - nI 0)
    rw [nI_0, Int32.sub_zero]
  | k + 1, hk => by
    rw [evB_s, evB_I h hn h2 hJ hd k (by omega)]
    show evS _ _ 2 (evS _ _ 1 (evS _ _ 0 (sI q r z J (3 * k)))) = _
    have a0 : evS (rT r) (nI (k + 1)) 0 (sI q r z J (3 * k)) = sI q r z J (3 * k + 1) := evS_I (z := z) h hn h2 hJ hd k 0 (by omega) (by omega)
    have a1 := evS_I (z := z) h hn h2 hJ hd k 1 (by omega) (by omega)
    have a2 := evS_I (z := z) h hn h2 hJ hd k 2 (by omega) (by omega)
    rw [a0, a1, a2]
    rfl
theorem adv_e {q r f : Nat → Int32} {d ax0 : Nat} (h : NQ q r) (hn : NW r d) (h2 : r 5 = 2) (hax : q 6 = nI ax0) (hal : ax0 ≤ 3) : AD (dn1 (aq q (aeF q 6 (q 5) ax0).1 (aeF q 6 (q 5) ax0).2.1)) (aeM (z3 f) (aeF q 6 (q 5) ax0)) r := by
  obtain ⟨t, ax, d', e5, e6, e4, b1, b2, b3, b4, b5⟩ := h.2.2.2.2.2.2.2.2 h2
  have hd99 : d < 99 := by
    have := hn.2.2.1
    have h99 : stAt r 5 ≤ 99 := (rSteps_eq hn.1).2.2
    omega
  obtain rfl : ax0 = ax := (nI_eq (by omega) (by omega)).mp (hax.symm.trans e6)
  obtain rfl : d = d' := (nI_eq (by omega) (by omega)).mp (hn.2.1.symm.trans (h.2.2.2.2.1.symm.trans e4))
  obtain ⟨J, j1, j2, j3, j4, j5⟩ := ev_next h hn h2 b5
  have hz : ∀ i, 3 * (t - 1) + ax0 ≤ i → i < J → aeB q (nI (i / 3 + 1)) (i % 3) = 0 := by
    intro i a b
    by_cases e : aeB q (nI (i / 3 + 1)) (i % 3) = 0
    · exact e
    · have m1 := (cnE_mono q (3 * (t - 1) + ax0) (i - (3 * (t - 1) + ax0))).1
      have m2 := (cnE_mono q (i + 1) (J - (i + 1))).1
      rw [show 3 * (t - 1) + ax0 + (i - (3 * (t - 1) + ax0)) = i by omega] at m1
      rw [show i + 1 + (J - (i + 1)) = J by omega, cnE_s, if_neg e] at m2
      omega
  have e := aeF_next q J j4 6 t ax0 b2 b3 j1 (by omega) hz
  rw [e5, e]
  obtain ⟨-, w2, w3, w4⟩ := wN_int hn h2 (i := 0) (by omega)
  have es : sgo r (z3 (fun _ => 0)) = (upd r (J % 3) (r (J % 3) + aeB q (nI (J / 3 + 1)) (J % 3)), upd (z3 (fun _ => 0)) (J % 3) (z3 (fun _ => 0) (J % 3) + aeB q (nI (J / 3 + 1)) (J % 3))) := by
    unfold sgo
    have ht : (rT r).toNatClampNeg = tN r := by rw [rT_eq hn (by rw [h2]; decide)]; exact nI_clamp (show tN r < 2 ^ 31 by omega)
    rw [if_pos (by rw [h2]; decide), if_pos h2, ht, evB_I h hn h2 j4 j5 _ (by omega)]
    unfold sI
    rw [if_neg (by omega)]
  refine ⟨NQ_dn h (by rw [h2]; decide) ?_ ?_ (fun _ => ?_), fun i hi => ?_⟩
  · intro j _ a b c
    simp [dn1, aq, upd, a, b, c]
  · simp [dn1, aq, upd]
  · have eq : ∀ j, j < 4 → dn1 (aq q (nI (J / 3 + 1)) (J % 3 + 1)) j = q j := fun j hj => by
      simp only [dn1, aq, upd]; rw [if_neg (by omega), if_neg (by omega), if_neg (by omega)]
    refine ⟨J / 3 + 1, J % 3 + 1, d + 1, by simp [dn1, aq, upd], by simp [dn1, aq, upd], by simp [dn1, aq, upd]; rw [e4, nI_1], by omega, by omega, by omega, by omega, ?_⟩
    rw [cnE_congr (eq 0 (by omega)) (eq 1 (by omega)) (eq 2 (by omega)) (eq 3 (by omega)), show 3 * (J / 3 + 1 - 1) + (J % 3 + 1) = J + 1 by omega, cnE_s, if_neg j4, j5]
  · rw [es]
    unfold aeM
    simp only []
    rw [if_neg j4]
    simp only [upd]
    by_cases hij : i = J % 3
    · rw [if_pos hij, if_pos hij, if_pos hij, z3_0 _ (by omega), Int32.zero_add, hij]
      exact ⟨rfl, rfl⟩
    · rw [if_neg hij, if_neg hij, if_neg hij, z3_0 _ hi, z3_0 _ hi, Int32.add_zero]
      exact ⟨rfl, rfl⟩
/-- a step of what is NOW, in the class -/
theorem cr_X2_advance {h : ax_H} {n p mv d : Nat} {q r f : Nat → Int32} (hp0 : h p = some (ePc q)) (hmv : h mv = some (ax_I 3 f)) (hpm : mv ≠ p) (hq : NQ q r) (hn : NW r d) : ax_C yX2_advance cX2_advance 3 none 3 0 0 [.ref p, .ref mv] h n (kP (fun h2 => ∃ q2 f2, h2 = hp (hp h mv (ax_I 3 f2)) p (ePc q2) ∧ AD q2 f2 r) n) := by
  have hok : okP (q 0) (q 1) (q 2) (q 3) := by rw [hq.1, hq.2.1, hq.2.2.1, hq.2.2.2.1]; exact hn.1
  have hA := isA_ok hok
  rw [hq.1] at hA
  by_cases h3 : 3 ≤ r 5
  · rw [if_pos h3] at hA
    refine (cn_X2_advance_a hp0 hmv hpm (by rw [hA]; decide)).wk ?_
    rintro v h' n' ⟨rfl, rfl, rfl⟩
    exact ⟨rfl, ⟨_, _, rfl, adv_a hq hn h3⟩, rfl⟩
  · rw [if_neg h3] at hA
    by_cases h2 : r 5 = 2
    · obtain ⟨t, ax, d', e5, e6, e4, b1, b2, -⟩ := hq.2.2.2.2.2.2.2.2 h2
      refine (cn_X2_advance_e hp0 hmv hpm hA (by rw [hq.1]; exact h2) e6 b2).wk ?_
      rintro v h' n' ⟨rfl, rfl, rfl⟩
      exact ⟨rfl, ⟨_, _, rfl, adv_e hq hn h2 e6 b2⟩, rfl⟩
    · refine (cn_X2_advance_l hp0 hmv hpm hA (by rw [hq.1]; exact h2)).wk ?_
      rintro v h' n' ⟨rfl, rfl, rfl⟩
      refine ⟨rfl, ⟨_, _, rfl, adv_l hq hn (fun x => ?_)⟩, rfl⟩
      rw [fb_le, ti_2] at x
      rw [fb_le, ti_3] at h3
      rw [fb_eq, ti_2] at h2
      omega
