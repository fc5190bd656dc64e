/-! rows of the reference, as numbers -/
theorem ti_0 : (0 : Int32).toInt = 0 := by decide
theorem ti_1 : (1 : Int32).toInt = 1 := by decide
theorem ti_2 : (2 : Int32).toInt = 2 := by decide
theorem ti_3 : (3 : Int32).toInt = 3 := by decide
theorem ti_4 : (4 : Int32).toInt = 4 := by decide
theorem ti_5 : (5 : Int32).toInt = 5 := by decide
theorem ti_10 : (10 : Int32).toInt = 10 := by decide
theorem ti_15 : (15 : Int32).toInt = 15 := by decide
theorem ti_99 : (99 : Int32).toInt = 99 := by decide
theorem ti_m1 : (-1 : Int32).toInt = -1 := by decide
theorem ti_m10 : (-10 : Int32).toInt = -10 := by decide
theorem ti_m15 : (-15 : Int32).toInt = -15 := by decide
theorem ti_neg {x : Int32} (h : -1000000 ≤ x.toInt) : (-x).toInt = -x.toInt := by
  have h2 := Int32.toInt_lt x
  rw [Int32.toInt_neg]
  apply Int.bmod_eq_of_le <;> omega
theorem rSz_eq {x : Int32} (h1 : -1000 ≤ x.toInt) (h2 : x.toInt ≤ 1000) : rSz x = nI x.toInt.natAbs := by
  rw [← Int32.toInt_inj, nI_toInt (by omega)]
  unfold rSz
  by_cases hx : x < 0
  · rw [if_pos hx, ti_neg (by omega)]
    rw [fb_lt, ti_0] at hx
    omega
  · rw [if_neg hx]
    rw [fb_lt, ti_0] at hx
    omega
def rTn (a b c : Int32) : Nat := max (max a.toInt.natAbs b.toInt.natAbs) c.toInt.natAbs
theorem nI_ite {a b : Nat} (ha : a < 2 ^ 31) (hb : b < 2 ^ 31) : (if nI a ≤ nI b then nI b else nI a) = nI (max a b) := by
  by_cases h : a ≤ b
  · rw [if_pos (nI_le h hb), Nat.max_eq_right h]
  · rw [if_neg (nI_ge (by omega) ha), Nat.max_eq_left (by omega)]
theorem rTurns_eq {a b c : Int32} (ha : -1000 ≤ a.toInt ∧ a.toInt ≤ 1000) (hb : -1000 ≤ b.toInt ∧ b.toInt ≤ 1000) (hc : -1000 ≤ c.toInt ∧ c.toInt ≤ 1000) : rTurns a b c = nI (rTn a b c) := by
  unfold rTurns rTn
  rw [rSz_eq ha.1 ha.2, rSz_eq hb.1 hb.2, rSz_eq hc.1 hc.2, nI_ite (by omega) (by omega)]
  generalize hm : max a.toInt.natAbs b.toInt.natAbs = m
  have hm2 : m ≤ 1000 := by omega
  by_cases h : c.toInt.natAbs ≤ m
  · rw [if_pos (nI_le h (by omega)), Nat.max_eq_left h]
  · rw [if_neg (nI_ge (by omega) (by omega)), Nat.max_eq_right (by omega)]
theorem okP_int {k a b c : Int32} (h : okP k a b c) : (0 ≤ k.toInt ∧ k.toInt ≤ 4) ∧ ((2 < k.toInt ∧ (-10 ≤ a.toInt ∧ a.toInt ≤ 10) ∧ (-10 ≤ b.toInt ∧ b.toInt ≤ 10) ∧ ¬ (a.toInt = 0 ∧ b.toInt = 0) ∧ (1 ≤ c.toInt ∧ c.toInt ≤ 99)) ∨ (k.toInt ≤ 2 ∧ (-15 ≤ a.toInt ∧ a.toInt ≤ 15) ∧ (-15 ≤ b.toInt ∧ b.toInt ≤ 15) ∧ (-15 ≤ c.toInt ∧ c.toInt ≤ 15) ∧ ¬ (a.toInt = 0 ∧ b.toInt = 0 ∧ c.toInt = 0))) := by
  obtain ⟨h1, h2⟩ := h
  simp only [fb_le, fb_lt, fb_eq, ti_0, ti_1, ti_2, ti_4, ti_10, ti_15, ti_99, ti_m10, ti_m15] at h1 h2
  refine ⟨h1, ?_⟩
  by_cases hk : 2 < k.toInt
  · rw [if_pos hk] at h2
    exact Or.inl ⟨hk, h2⟩
  · rw [if_neg hk] at h2
    exact Or.inr ⟨by omega, h2⟩
def stN (k a b c : Int32) : Nat := if 2 ≤ k then (if k = 2 then a.toInt.natAbs + b.toInt.natAbs + c.toInt.natAbs else c.toInt.natAbs) else rTn a b c
theorem rSteps_eq {k a b c : Int32} (h : okP k a b c) : rSteps k a b c = nI (stN k a b c) ∧ 1 ≤ stN k a b c ∧ stN k a b c ≤ 99 := by
  have hi := okP_int h
  unfold rSteps stN
  by_cases h2 : 2 ≤ k
  · rw [if_pos h2, if_pos h2]
    rw [fb_le, ti_2] at h2
    by_cases h3 : k = 2
    · rw [if_pos h3, if_pos h3]
      have h3' := (fb_eq _ _).mp h3
      rw [ti_2] at h3'
      rcases hi.2 with q | q
      · omega
      · rw [rSz_eq (by omega) (by omega), rSz_eq (by omega) (by omega), rSz_eq (by omega) (by omega), nI_add, nI_add]
        exact ⟨rfl, by omega, by omega⟩
    · rw [if_neg h3, if_neg h3]
      have h3' : ¬ k.toInt = 2 := fun e => h3 ((fb_eq _ _).mpr (by rw [ti_2]; exact e))
      rcases hi.2 with q | q
      · refine ⟨?_, by omega, by omega⟩
        rw [← Int32.toInt_inj, nI_toInt (by omega)]
        omega
      · omega
  · rw [if_neg h2, if_neg h2]
    rw [fb_le, ti_2] at h2
    rcases hi.2 with q | q
    · omega
    · rw [rTurns_eq (by omega) (by omega) (by omega)]
      unfold rTn
      exact ⟨rfl, by omega, by omega⟩
abbrev pcOK (r : Nat → Int32) (c : Nat) : Prop := okP (r c) (r (c + 1)) (r (c + 2)) (r (c + 3))
theorem okT_of {r : Nat → Int32} (h : pcOK r 5) : okT r := by
  intro hk
  have hi := okP_int (k := r 5) (a := r 6) (b := r 7) (c := r 8) h
  rw [fb_le, ti_3] at hk
  rcases hi.2 with q | q
  · omega
  · have e : rT r = nI (rTn (r 6) (r 7) (r 8)) := rTurns_eq (a := r 6) (b := r 7) (c := r 8) (by omega) (by omega) (by omega)
    have hb : 1 ≤ rTn (r 6) (r 7) (r 8) ∧ rTn (r 6) (r 7) (r 8) ≤ 15 := by unfold rTn; omega
    have hc : (rT r).toNatClampNeg = rTn (r 6) (r 7) (r 8) := by rw [e]; exact nI_clamp (by omega)
    refine ⟨?_, by rw [hc]; exact e, by rw [hc]; omega⟩
    rw [e, show (2 : Int32) = nI 2 from rfl, pk_mul]
    exact nI_ne0 (by omega) (by omega)
/-! what a begun piece's row is -/
theorem bgA_eq (r : Nat → Int32) : ∀ k, k ≤ 4 → ∀ j, bgA r k j = if 5 ≤ j ∧ j < 5 + k then r (j + 8) else r j
  | 0, _, j => by rw [if_neg (by omega)]; rfl
  | k + 1, hk, j => by
    rw [bgA_s, upd]
    by_cases hj : j = 5 + k
    · subst hj
      rw [if_pos rfl, if_pos (by omega), bgA_eq r k (by omega), if_neg (by omega)]
      rw [show 5 + k + 8 = 13 + k by omega]
    · rw [if_neg hj, bgA_eq r k (by omega)]
      by_cases h2 : 5 ≤ j ∧ j < 5 + k
      · rw [if_pos h2, if_pos (by omega)]
      · rw [if_neg h2, if_neg (by omega)]
theorem bgB_eq (r : Nat → Int32) : ∀ k, ∀ j, bgB r k j = if 13 ≤ j ∧ j < 13 + k then r (j + 4) else r j
  | 0, j => by rw [if_neg (by omega)]; rfl
  | k + 1, j => by
    rw [bgB_s, upd]
    by_cases hj : j = 13 + k
    · subst hj
      rw [if_pos rfl, if_pos (by omega), bgB_eq r k, if_neg (by omega)]
    · rw [if_neg hj, bgB_eq r k]
      by_cases h2 : 13 ≤ j ∧ j < 13 + k
      · rw [if_pos h2, if_pos (by omega)]
      · rw [if_neg h2, if_neg (by omega)]
theorem bgE_eq (r : Nat → Int32) (m : Nat) (j : Nat) : bgE r m j = if j = 12 then r 12 - 1 else if j = 9 then 0 else if j = 10 then - r 14 else if j = 11 then - r 15 else if 5 ≤ j ∧ j < 9 then r (j + 8) else if 13 ≤ j ∧ j < 13 + 4 * (m - 1) then r (j + 4) else r j := by
  have e : ∀ j, bgB (bgA r 4) (4 * (m - 1)) j = if 13 ≤ j ∧ j < 13 + 4 * (m - 1) then r (j + 4) else if 5 ≤ j ∧ j < 9 then r (j + 8) else r j := by
    intro j
    rw [bgB_eq, bgA_eq r 4 (by omega), bgA_eq r 4 (by omega)]
    by_cases h1 : 13 ≤ j ∧ j < 13 + 4 * (m - 1)
    · rw [if_pos h1, if_pos h1, if_neg (by omega)]
    · rw [if_neg h1, if_neg h1]
  unfold bgE bgC
  simp only [upd, e]
  by_cases h12 : j = 12
  · subst h12; simp
  · by_cases h9 : j = 9
    · subst h9; simp
    · by_cases h10 : j = 10
      · subst h10; simp
      · by_cases h11 : j = 11
        · subst h11; simp
        · simp only [if_neg h12, if_neg h9, if_neg h10, if_neg h11]
          by_cases h1 : 13 ≤ j ∧ j < 13 + 4 * (m - 1)
          · rw [if_pos h1, if_neg (by omega), if_pos h1]
          · rw [if_neg h1]
            by_cases h2 : 5 ≤ j ∧ j < 9
            · rw [if_pos h2, if_pos h2]
            · rw [if_neg h2, if_neg h2, if_neg h1]
/-! a move changes places alone, and an arc's own two numbers; what it does to the row and to what is moved doesn't hang on what was moved before -/
theorem lnS_keep (t k : Int32) (r mv : Nat → Int32) {c : Nat} : ∀ j, j ≤ c → (lnS t k r mv j).1 c = r c
  | 0, _ => rfl
  | j + 1, h => by
    show upd (lnS t k r mv j).1 j _ c = _
    rw [upd, if_neg (by omega)]
    exact lnS_keep t k r mv j (by omega)
theorem evS_keep (t k : Int32) (j : Nat) (s : eS) {c : Nat} (h : c ≠ j) : (evS t k j s).1 c = s.1 c := by
  unfold evS
  split
  · rfl
  · show upd s.1 j _ c = _
    rw [upd, if_neg h]
theorem evA_keep (t k : Int32) (s : eS) {c : Nat} (hc : 3 ≤ c) : ∀ j, j ≤ 3 → (evA t k s j).1 c = s.1 c
  | 0, _ => rfl
  | j + 1, h => by rw [evA_s, evS_keep _ _ _ _ (by omega)]; exact evA_keep t k s hc j (by omega)
theorem evB_keep (t : Int32) (s : eS) {c : Nat} (hc : 3 ≤ c) : ∀ i, (evB t s i).1 c = s.1 c
  | 0 => rfl
  | i + 1 => by rw [evB_s, evA_keep _ _ _ hc 3 (by omega)]; exact evB_keep t s hc i
theorem sgo_keep (r mv : Nat → Int32) {c : Nat} (hc : 3 ≤ c) (h10 : c ≠ 10) (h11 : c ≠ 11) : (sgo r mv).1 c = r c := by
  unfold sgo
  split
  · split
    · exact evB_keep _ _ hc _
    · simp only [arS, arR, upd]
      rw [if_neg (by omega), if_neg (by omega), if_neg h11, if_neg h10]
  · exact lnS_keep _ _ _ _ 3 hc
theorem sgo_uv (r mv : Nat → Int32) (h : ¬ 3 ≤ r 5) {c : Nat} (hc : 3 ≤ c) : (sgo r mv).1 c = r c := by
  unfold sgo
  split
  · rename_i h2
    rw [if_pos ?_]
    · exact evB_keep _ _ hc _
    · rw [fb_eq, ti_2]; rw [fb_le, ti_3] at h; rw [fb_le, ti_2] at h2; omega
  · exact lnS_keep _ _ _ _ 3 hc
