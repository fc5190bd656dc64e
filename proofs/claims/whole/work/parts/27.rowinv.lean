/-! the row's step doesn't hang on what was moved before -/
def eqM (a b : (Nat → Int32) × (Nat → Int32)) (mv mv' : Nat → Int32) : Prop := a.1 = b.1 ∧ ∀ i, mv i = mv' i → a.2 i = b.2 i
theorem lnS_mv (t k : Int32) (r mv mv' : Nat → Int32) : ∀ j, eqM (lnS t k r mv j) (lnS t k r mv' j) mv mv'
  | 0 => ⟨rfl, fun i h => h⟩
  | j + 1 => by
    obtain ⟨h1, h2⟩ := lnS_mv t k r mv mv' j
    refine ⟨?_, fun i hi => ?_⟩
    · show upd (lnS t k r mv j).1 j _ = upd (lnS t k r mv' j).1 j _
      rw [h1]
    · show upd (lnS t k r mv j).2 j _ i = upd (lnS t k r mv' j).2 j _ i
      rw [h1]
      by_cases hij : i = j
      · subst hij
        simp only [upd, if_true]
        rw [h2 i hi]
      · simp only [upd, if_neg hij]
        exact h2 i hi
theorem evS_mv (t k : Int32) (j : Nat) {s s' : eS} {mv mv' : Nat → Int32} (h1 : s.1 = s'.1) (h3 : s.2.2 = s'.2.2) (h2 : ∀ i, mv i = mv' i → s.2.1 i = s'.2.1 i) : (evS t k j s).1 = (evS t k j s').1 ∧ (evS t k j s).2.2 = (evS t k j s').2.2 ∧ ∀ i, mv i = mv' i → (evS t k j s).2.1 i = (evS t k j s').2.1 i := by
  unfold evS
  rw [h1, h3]
  split
  · exact ⟨h1, h3, h2⟩
  · refine ⟨rfl, rfl, fun i hi => ?_⟩
    by_cases hij : i = j
    · subst hij
      simp only [upd, if_true]
      rw [h2 i hi]
    · simp only [upd, if_neg hij]
      exact h2 i hi
theorem evA_mv (t k : Int32) {s s' : eS} {mv mv' : Nat → Int32} (h1 : s.1 = s'.1) (h3 : s.2.2 = s'.2.2) (h2 : ∀ i, mv i = mv' i → s.2.1 i = s'.2.1 i) : ∀ j, (evA t k s j).1 = (evA t k s' j).1 ∧ (evA t k s j).2.2 = (evA t k s' j).2.2 ∧ ∀ i, mv i = mv' i → (evA t k s j).2.1 i = (evA t k s' j).2.1 i
  | 0 => ⟨h1, h3, h2⟩
  | j + 1 => by
    obtain ⟨q1, q3, q2⟩ := evA_mv t k h1 h3 h2 j
    rw [evA_s, evA_s]
    exact evS_mv t k j q1 q3 q2
theorem evB_mv (t : Int32) {s s' : eS} {mv mv' : Nat → Int32} (h1 : s.1 = s'.1) (h3 : s.2.2 = s'.2.2) (h2 : ∀ i, mv i = mv' i → s.2.1 i = s'.2.1 i) : ∀ j, (evB t s j).1 = (evB t s' j).1 ∧ (evB t s j).2.2 = (evB t s' j).2.2 ∧ ∀ i, mv i = mv' i → (evB t s j).2.1 i = (evB t s' j).2.1 i
  | 0 => ⟨h1, h3, h2⟩
  | j + 1 => by
    obtain ⟨q1, q3, q2⟩ := evB_mv t h1 h3 h2 j
    rw [evB_s, evB_s]
    exact evA_mv t _ q1 q3 q2 3
theorem sgo_mv (r mv mv' : Nat → Int32) : eqM (sgo r mv) (sgo r mv') mv mv' := by
  unfold sgo
  split
  · split
    · obtain ⟨h1, -, h2⟩ := evB_mv (rT r) (s := (r, mv, r 9)) (s' := (r, mv', r 9)) (mv := mv) (mv' := mv') rfl rfl (fun i h => h) (rT r).toNatClampNeg
      exact ⟨h1, h2⟩
    · refine ⟨rfl, fun i hi => ?_⟩
      show upd (upd mv 0 _) 1 _ i = upd (upd mv' 0 _) 1 _ i
      by_cases h1 : i = 1
      · subst h1
        simp only [upd, if_true]
        simp [hi]
      · by_cases h0 : i = 0
        · subst h0; simp [upd, hi]
        · simp [upd, h1, h0, hi]
  · exact lnS_mv _ _ _ _ _ 3
theorem z3_0 (mv : Nat → Int32) {i : Nat} (h : i < 3) : z3 mv i = 0 := by
  rcases (show i = 0 ∨ i = 1 ∨ i = 2 by omega) with rfl | rfl | rfl <;> simp [z3, upd]
def mOf (r : Nat → Int32) : Nat := (r 12).toNatClampNeg
/-- the row behind a step; what that step moves -/
def nx (r : Nat → Int32) : Nat → Int32 := (rStp (mOf r) r (fun _ => 0)).1
def mo (r : Nat → Int32) (i : Nat) : Int32 := (rStp (mOf r) r (fun _ => 0)).2 i
theorem mOf_eq {r : Nat → Int32} {m : Nat} (hm : r 12 = nI m) (h : m < 1000) : mOf r = m := by unfold mOf; rw [hm]; exact nI_clamp (by omega)
theorem rStp_nx {r mv : Nat → Int32} {m : Nat} (hm : r 12 = nI m) (h : m < 1000) : (rStp m r mv).1 = nx r ∧ ∀ i, i < 3 → (rStp m r mv).2 i = mo r i := by
  unfold nx mo
  rw [mOf_eq hm h]
  unfold rStp
  by_cases hf : rFlag r = 0
  · rw [if_pos hf, if_pos hf]
    exact ⟨rfl, fun i hi => (z3_0 mv hi).trans (z3_0 _ hi).symm⟩
  · rw [if_neg hf, if_neg hf]
    obtain ⟨h1, h2⟩ := sgo_mv (rBeg r m) (z3 mv) (z3 (fun _ => 0))
    exact ⟨by rw [h1], fun i hi => h2 i (by rw [z3_0 _ hi, z3_0 _ hi])⟩
theorem nx_0 {r : Nat → Int32} (hf : rFlag r = 0) : nx r = r ∧ ∀ i, i < 3 → mo r i = 0 := by
  unfold nx mo rStp
  rw [if_pos hf]
  exact ⟨rfl, fun i hi => z3_0 _ hi⟩
/-! the invariant of a row -/
abbrev stAt (r : Nat → Int32) (c : Nat) : Nat := stN (r c) (r (c + 1)) (r (c + 2)) (r (c + 3))
def lnSum (r : Nat → Int32) : Nat → Nat
  | 0 => 0
  | k + 1 => lnSum r k + stAt r (13 + 4 * k)
/-- what is NOW: d of its steps are done -/
def NW (r : Nat → Int32) (d : Nat) : Prop := pcOK r 5 ∧ r 9 = nI d ∧ d < stAt r 5 ∧ (3 ≤ r 5 → (r 10).toInt.natAbs ≤ 10 + d ∧ (r 11).toInt.natAbs ≤ 10 + d)
def RW (r : Nat → Int32) (m : Nat) : Prop := r 12 = nI m ∧ m ≤ 12 ∧ ∀ k, k < m → pcOK r (13 + 4 * k)
def RI (r : Nat → Int32) (m : Nat) : Prop := RW r m ∧ (r 5 = -1 ∨ ∃ d, NW r d)
/-- how many steps there are -/
def LN (r : Nat → Int32) (m : Nat) : Nat := (if 0 ≤ r 5 then stAt r 5 - (r 9).toNatClampNeg else 0) + lnSum r m
theorem NW_pos {r : Nat → Int32} {d : Nat} (h : NW r d) : 0 ≤ r 5 := h.1.1.1
theorem neg_m1 {x : Int32} (h : x = -1) : ¬ 0 ≤ x := by rw [h]; decide
theorem lnSum_eq {r r' : Nat → Int32} {s : Nat} : ∀ m, (∀ j, 13 ≤ j → j < 13 + 4 * m → r' j = r (j + s)) → lnSum r' m = (List.range m).foldl (fun a k => a + stAt r (13 + 4 * k + s)) 0
  | 0, _ => rfl
  | m + 1, h => by
    show lnSum r' m + stAt r' (13 + 4 * m) = _
    rw [lnSum_eq m (fun j h1 h2 => h j h1 (by omega)), List.range_succ, List.foldl_append]
    show _ = List.foldl _ 0 (List.range m) + stAt r (13 + 4 * m + s)
    congr 1
    unfold stAt
    rw [h _ (by omega) (by omega), h _ (by omega) (by omega), h _ (by omega) (by omega), h _ (by omega) (by omega)]
    congr 2 <;> omega
theorem lnSum_congr {r r' : Nat → Int32} : ∀ m, (∀ j, 13 ≤ j → j < 13 + 4 * m → r' j = r j) → lnSum r' m = lnSum r m
  | 0, _ => rfl
  | m + 1, h => by
    show lnSum r' m + stAt r' (13 + 4 * m) = lnSum r m + stAt r (13 + 4 * m)
    rw [lnSum_congr m (fun j h1 h2 => h j h1 (by omega))]
    unfold stAt
    rw [h _ (by omega) (by omega), h _ (by omega) (by omega), h _ (by omega) (by omega), h _ (by omega) (by omega)]
theorem lnSum_shift {r r' : Nat → Int32} : ∀ m, (∀ j, 13 ≤ j → j < 13 + 4 * m → r' j = r (j + 4)) → stAt r 13 + lnSum r' m = lnSum r (m + 1)
  | 0, _ => by show stAt r 13 + 0 = 0 + stAt r 13; omega
  | m + 1, h => by
    show stAt r 13 + (lnSum r' m + stAt r' (13 + 4 * m)) = lnSum r (m + 1) + stAt r (13 + 4 * (m + 1))
    rw [← lnSum_shift m (fun j h1 h2 => h j h1 (by omega))]
    unfold stAt
    rw [h _ (by omega) (by omega), h _ (by omega) (by omega), h _ (by omega) (by omega), h _ (by omega) (by omega)]
    rw [show 13 + 4 * (m + 1) = 13 + 4 * m + 4 by omega, show 13 + 4 * m + 4 + 1 = 13 + 4 * m + 1 + 4 by omega, show 13 + 4 * m + 4 + 2 = 13 + 4 * m + 2 + 4 by omega, show 13 + 4 * m + 4 + 3 = 13 + 4 * m + 3 + 4 by omega]
    omega
/-- the first that waits is begun -/
theorem beg_inv {r : Nat → Int32} {m : Nat} (h : RW r (m + 1)) : RW (bgE r (m + 1)) m ∧ NW (bgE r (m + 1)) 0 ∧ stAt (bgE r (m + 1)) 5 + lnSum (bgE r (m + 1)) m = lnSum r (m + 1) := by
  obtain ⟨h1, h2, h3⟩ := h
  have e5 : bgE r (m + 1) 5 = r 13 := by rw [bgE_eq]; simp
  have e6 : bgE r (m + 1) 6 = r 14 := by rw [bgE_eq]; simp
  have e7 : bgE r (m + 1) 7 = r 15 := by rw [bgE_eq]; simp
  have e8 : bgE r (m + 1) 8 = r 16 := by rw [bgE_eq]; simp
  have e9 : bgE r (m + 1) 9 = 0 := by rw [bgE_eq]; simp
  have e10 : bgE r (m + 1) 10 = - r 14 := by rw [bgE_eq]; simp
  have e11 : bgE r (m + 1) 11 = - r 15 := by rw [bgE_eq]; simp
  have e12 : bgE r (m + 1) 12 = nI m := by rw [bgE_eq]; simp [h1, nI_pred]
  have eh : ∀ j, 13 ≤ j → j < 13 + 4 * m → bgE r (m + 1) j = r (j + 4) := by
    intro j q1 q2
    rw [bgE_eq, if_neg (by omega), if_neg (by omega), if_neg (by omega), if_neg (by omega), if_neg (by omega), if_pos (by omega)]
  have hp : okP (r 13) (r 14) (r 15) (r 16) := h3 0 (by omega)
  have hst : stAt (bgE r (m + 1)) 5 = stAt r 13 := by show stN (bgE r (m + 1) 5) (bgE r (m + 1) 6) (bgE r (m + 1) 7) (bgE r (m + 1) 8) = _; rw [e5, e6, e7, e8]
  refine ⟨⟨e12, by omega, fun k hk => ?_⟩, ⟨?_, ?_, ?_, fun h5 => ?_⟩, ?_⟩
  · have := h3 (k + 1) (by omega)
    show okP (bgE r (m + 1) (13 + 4 * k)) (bgE r (m + 1) (13 + 4 * k + 1)) (bgE r (m + 1) (13 + 4 * k + 2)) (bgE r (m + 1) (13 + 4 * k + 3))
    rw [eh _ (by omega) (by omega), eh _ (by omega) (by omega), eh _ (by omega) (by omega), eh _ (by omega) (by omega)]
    exact this
  · show okP (bgE r (m + 1) 5) (bgE r (m + 1) 6) (bgE r (m + 1) 7) (bgE r (m + 1) 8)
    rw [e5, e6, e7, e8]; exact hp
  · rw [e9]; rfl
  · rw [hst]; exact (rSteps_eq hp).2.1
  · rw [e5] at h5
    have hi := okP_int hp
    rw [fb_le, ti_3] at h5
    rw [e10, e11]
    rcases hi.2 with q | q
    · rw [ti_neg (by omega), ti_neg (by omega)]; omega
    · omega
  · rw [hst]; exact lnSum_shift m eh
theorem sg_abs (x : Int32) : (rSg x).toInt = 1 ∨ (rSg x).toInt = -1 ∨ (rSg x).toInt = 0 := by
  unfold rSg
  split
  · left; decide
  · split
    · right; left; decide
    · right; right; decide
theorem mul1 {w x : Int32} (hw : w = 1 ∨ w = -1) (hx : x = 1 ∨ x = -1 ∨ x = 0) : w * x = 1 ∨ w * x = -1 ∨ w * x = 0 := by
  rcases hw with rfl | rfl <;> rcases hx with rfl | rfl | rfl <;> decide
theorem sg_val (x : Int32) : rSg x = 1 ∨ rSg x = -1 ∨ rSg x = 0 := by
  unfold rSg
  split
  · exact Or.inl rfl
  · split
    · exact Or.inr (Or.inl rfl)
    · exact Or.inr (Or.inr rfl)
theorem aX_val (r : Nat → Int32) : aX r = 1 ∨ aX r = -1 ∨ aX r = 0 := by
  unfold aX
  split
  · exact Or.inr (Or.inr rfl)
  · refine mul1 ?_ (sg_val _)
    split
    · right; decide
    · left; decide
theorem aY_val (r : Nat → Int32) : aY r = 1 ∨ aY r = -1 ∨ aY r = 0 := by
  unfold aY
  split
  · exact Or.inr (Or.inr rfl)
  · refine mul1 ?_ (sg_val _)
    split
    · left; rfl
    · right; rfl
theorem add1_abs {x y : Int32} {b : Nat} (hb : b < 1000) (hx : x.toInt.natAbs ≤ b) (hy : y = 1 ∨ y = -1 ∨ y = 0) : (x + y).toInt.natAbs ≤ b + 1 := by
  have h1 : y.toInt = 1 ∨ y.toInt = -1 ∨ y.toInt = 0 := by
    rcases hy with rfl | rfl | rfl
    · left; decide
    · right; left; decide
    · right; right; decide
  have h2 : (x + y).toInt = x.toInt + y.toInt := by
    rw [Int32.toInt_add]
    apply Int.bmod_eq_of_le <;> omega
  rw [h2]; omega
/-- a step of what is NOW -/
theorem go_inv {r mv : Nat → Int32} {m d : Nat} (h : RW r m) (hn : NW r d) : RI (sEnd (sgo r mv).1) m ∧ LN (sEnd (sgo r mv).1) m + 1 = stAt r 5 - d + lnSum r m := by
  obtain ⟨h1, h2, h3⟩ := h
  obtain ⟨n1, n2, n3, n4⟩ := hn
  have hst := rSteps_eq n1
  generalize hr2 : (sgo r mv).1 = r2
  have ek : ∀ c, 3 ≤ c → c ≠ 10 → c ≠ 11 → r2 c = r c := fun c q1 q2 q3 => by rw [← hr2]; exact sgo_keep r mv q1 q2 q3
  have e5 := ek 5 (by omega) (by omega) (by omega)
  have e6 := ek 6 (by omega) (by omega) (by omega)
  have e7 := ek 7 (by omega) (by omega) (by omega)
  have e8 := ek 8 (by omega) (by omega) (by omega)
  have e9 : r2 9 + 1 = nI (d + 1) := by rw [ek 9 (by omega) (by omega) (by omega), n2]; exact nI_1 d
  have e12 := ek 12 (by omega) (by omega) (by omega)
  generalize hr3 : upd r2 9 (r2 9 + 1) = r3
  have k3 : ∀ c, c ≠ 9 → r3 c = r2 c := fun c q => by rw [← hr3, upd, if_neg q]
  have k9 : r3 9 = nI (d + 1) := by rw [← hr3, upd, if_pos rfl, e9]
  have s5 : stAt r3 5 = stAt r 5 := by show stN (r3 5) (r3 6) (r3 7) (r3 8) = _; rw [k3 5 (by omega), k3 6 (by omega), k3 7 (by omega), k3 8 (by omega), e5, e6, e7, e8]
  have sA : sAt r3 5 = nI (stAt r 5) := by
    show rSteps (r3 5) (r3 6) (r3 7) (r3 8) = _
    rw [k3 5 (by omega), k3 6 (by omega), k3 7 (by omega), k3 8 (by omega), e5, e6, e7, e8]
    exact hst.1
  have p5 : 0 ≤ r3 5 := by rw [k3 5 (by omega), e5]; exact n1.1.1
  have sN : sNow r3 = nI (stAt r 5 - (d + 1)) := by
    unfold sNow
    rw [if_pos p5, sA, k9, pk_sub (by omega)]
  have hW : ∀ r4 : Nat → Int32, (∀ c, 12 ≤ c → r4 c = r c) → RW r4 m ∧ lnSum r4 m = lnSum r m := by
    intro r4 q
    refine ⟨⟨by rw [q 12 (by omega)]; exact h1, h2, fun k hk => ?_⟩, lnSum_congr m (fun j q1 _ => q j (by omega))⟩
    show okP (r4 (13 + 4 * k)) (r4 (13 + 4 * k + 1)) (r4 (13 + 4 * k + 2)) (r4 (13 + 4 * k + 3))
    rw [q _ (by omega), q _ (by omega), q _ (by omega), q _ (by omega)]
    exact h3 k hk
  have k12 : ∀ c, 12 ≤ c → r3 c = r c := fun c q => by rw [k3 c (by omega), ek c (by omega) (by omega) (by omega)]
  have hb : stAt r 5 ≤ 99 := hst.2.2
  by_cases hz : stAt r 5 - (d + 1) = 0
  · have hs : sNow (upd r2 9 (r2 9 + 1)) = 0 := by rw [hr3, sN, hz]; rfl
    rw [sEnd_p hs, hr3]
    obtain ⟨w1, w2⟩ := hW (upd r3 5 (-1)) (fun c q => by rw [upd, if_neg (by omega)]; exact k12 c q)
    refine ⟨⟨w1, Or.inl (by rw [upd, if_pos rfl])⟩, ?_⟩
    unfold LN
    rw [if_neg (by rw [upd, if_pos rfl]; decide), w2]
    omega
  · have hs : ¬ sNow (upd r2 9 (r2 9 + 1)) = 0 := by rw [hr3, sN]; exact nI_ne0 (by omega) (by omega)
    rw [sEnd_n hs, hr3]
    obtain ⟨w1, w2⟩ := hW r3 k12
    refine ⟨⟨w1, Or.inr ⟨d + 1, ?_, k9, by rw [s5]; omega, fun q5 => ?_⟩⟩, ?_⟩
    · show okP (r3 5) (r3 6) (r3 7) (r3 8)
      rw [k3 5 (by omega), k3 6 (by omega), k3 7 (by omega), k3 8 (by omega), e5, e6, e7, e8]
      exact n1
    · rw [k3 5 (by omega), e5] at q5
      obtain ⟨b1, b2⟩ := n4 q5
      rw [k3 10 (by omega), k3 11 (by omega), ← hr2]
      have h25 : 2 ≤ r 5 := Int32.le_trans (show (2 : Int32) ≤ 3 by decide) q5
      have hne : ¬ r 5 = 2 := fun e => by rw [e] at q5; exact absurd q5 (by decide)
      unfold sgo
      rw [if_pos h25, if_neg hne]
      have x10 : (arS r mv).1 10 = r 10 + aX r := by simp [arS, arR, upd]
      have x11 : (arS r mv).1 11 = r 11 + aY r := by simp [arS, arR, upd]
      rw [x10, x11]
      exact ⟨by have := add1_abs (by omega) b1 (aX_val r); omega, by have := add1_abs (by omega) b2 (aY_val r); omega⟩
    · unfold LN
      rw [if_pos p5, w2, s5, k9, nI_clamp (by omega)]
      omega
theorem flag_now {r : Nat → Int32} (h : 0 ≤ r 5) : rFlag r = 1 := by unfold rFlag; rw [if_pos h]
/-- a step keeps the row's invariant, and there is one step less -/
theorem RI_step {r : Nat → Int32} {m : Nat} (h : RI r m) (hf : ¬ rFlag r = 0) : ∃ m', m' ≤ m ∧ RI (nx r) m' ∧ LN (nx r) m' + 1 = LN r m := by
  obtain ⟨hw, hn⟩ := h
  have hm := hw.1
  have hm2 := hw.2.1
  have e1 : nx r = sEnd (sgo (rBeg r m) (z3 (fun _ => 0))).1 := by
    unfold nx rStp
    rw [mOf_eq hm (by omega), if_neg hf]
  rw [e1]
  rcases hn with hn | ⟨d, hn⟩
  · have h0 : ¬ 0 ≤ r 5 := neg_m1 hn
    have hb : rBeg r m = bgE r m := by unfold rBeg; rw [if_neg h0]
    obtain ⟨m', rfl⟩ : ∃ m', m = m' + 1 := by
      rcases m with _ | m'
      · exact absurd (by unfold rFlag; rw [if_neg h0, if_pos (by rw [hm]; rfl)]) hf
      · exact ⟨m', rfl⟩
    obtain ⟨b1, b2, b3⟩ := beg_inv hw
    rw [hb]
    obtain ⟨g1, g2⟩ := go_inv (mv := z3 (fun _ => 0)) b1 b2
    refine ⟨m', by omega, g1, ?_⟩
    rw [g2]
    unfold LN
    rw [if_neg h0]
    omega
  · have h0 : 0 ≤ r 5 := NW_pos hn
    have hb : rBeg r m = r := by unfold rBeg; rw [if_pos h0]
    rw [hb]
    obtain ⟨g1, g2⟩ := go_inv (mv := z3 (fun _ => 0)) hw hn
    refine ⟨m, Nat.le_refl _, g1, ?_⟩
    rw [g2]
    unfold LN
    have hst := rSteps_eq hn.1
    have h99 : stAt r 5 ≤ 99 := hst.2.2
    rw [if_pos h0, hn.2.1, nI_clamp (by have := hn.2.2.1; omega)]
theorem RI_ok {r : Nat → Int32} {m : Nat} (h : RI r m) (hf : ¬ rFlag r = 0) : okT (rBeg r m) := by
  obtain ⟨hw, hn⟩ := h
  rcases hn with hn | ⟨d, hn⟩
  · have h0 : ¬ 0 ≤ r 5 := neg_m1 hn
    unfold rBeg
    rw [if_neg h0]
    obtain ⟨m', rfl⟩ : ∃ m', m = m' + 1 := by
      rcases m with _ | m'
      · exact absurd (by unfold rFlag; rw [if_neg h0, if_pos (by rw [hw.1]; rfl)]) hf
      · exact ⟨m', rfl⟩
    exact okT_of (beg_inv hw).2.1.1
  · unfold rBeg
    rw [if_pos (NW_pos hn)]
    exact okT_of hn.1
theorem lnSum_pos {r : Nat → Int32} {m : Nat} (h : RW r m) : ∀ k, k ≤ m → k ≤ lnSum r k ∧ lnSum r k ≤ 99 * k
  | 0, _ => ⟨Nat.le_refl _, Nat.le_refl _⟩
  | k + 1, hk => by
    have ih := lnSum_pos h k (by omega)
    have hp := rSteps_eq (h.2.2 k (by omega))
    have h1 : 1 ≤ stAt r (13 + 4 * k) ∧ stAt r (13 + 4 * k) ≤ 99 := hp.2
    show k + 1 ≤ lnSum r k + stAt r (13 + 4 * k) ∧ lnSum r k + stAt r (13 + 4 * k) ≤ 99 * (k + 1)
    omega
theorem LN_flag {r : Nat → Int32} {m : Nat} (h : RI r m) : rFlag r = 0 ↔ LN r m = 0 := by
  obtain ⟨hw, hn⟩ := h
  have hs := lnSum_pos hw m (Nat.le_refl _)
  unfold LN rFlag
  rcases hn with hn | ⟨d, hn⟩
  · have h0 : ¬ 0 ≤ r 5 := neg_m1 hn
    rw [if_neg h0, if_neg h0]
    constructor
    · intro q
      by_cases hz : r 12 = 0
      · have : m = 0 := by
          rw [hw.1] at hz
          exact (nI_eq (by have := hw.2.1; omega) (by omega)).mp (hz.trans nI_0.symm)
        subst this
        rfl
      · rw [if_neg hz] at q; exact absurd q (by decide)
    · intro q
      have : m = 0 := by omega
      subst this
      rw [if_pos (by rw [hw.1]; rfl)]
  · have h0 := NW_pos hn
    rw [if_pos h0, if_pos h0, hn.2.1]
    have := hn.2.2.1
    have h99 : stAt r 5 ≤ 99 := (rSteps_eq hn.1).2.2
    rw [nI_clamp (by omega)]
    constructor
    · intro q; exact absurd q (by decide)
    · intro q; omega
theorem LN_le {r : Nat → Int32} {m : Nat} (h : RI r m) : LN r m ≤ 1287 := by
  obtain ⟨hw, hn⟩ := h
  have hs := lnSum_pos hw m (Nat.le_refl _)
  have := hw.2.1
  unfold LN
  rcases hn with hn | ⟨d, hn⟩
  · rw [if_neg (neg_m1 hn)]; omega
  · have h99 : stAt r 5 ≤ 99 := (rSteps_eq hn.1).2.2
    split <;> omega
/-- LEFT, as the reference counts it -/
theorem sLeft_eq {r : Nat → Int32} {m : Nat} (h : RI r m) : sLeft r m = nI (LN r m) := by
  obtain ⟨hw, hn⟩ := h
  have key : ∀ k, k ≤ m → sLeft r k = nI ((if 0 ≤ r 5 then stAt r 5 - (r 9).toNatClampNeg else 0) + lnSum r k) := by
    intro k
    induction k with
    | zero =>
      intro _
      show sNow r = _
      unfold sNow
      rcases hn with hn | ⟨d, hn⟩
      · rw [if_neg (neg_m1 hn), if_neg (neg_m1 hn)]; rfl
      · have h0 := NW_pos hn
        have h99 : stAt r 5 ≤ 99 := (rSteps_eq hn.1).2.2
        have hd := hn.2.2.1
        rw [if_pos h0, if_pos h0, hn.2.1, nI_clamp (by omega)]
        rw [show sAt r 5 = nI (stAt r 5) from (rSteps_eq hn.1).1, pk_sub (by omega)]
        rfl
    | succ k ih =>
      intro hk
      show sLeft r k + sAt r (13 + 4 * k) = nI (_ + (lnSum r k + stAt r (13 + 4 * k)))
      rw [ih (by omega), show sAt r (13 + 4 * k) = nI (stAt r (13 + 4 * k)) from (rSteps_eq (hw.2.2 k (by omega))).1, nI_add, Nat.add_assoc]
  exact key m (Nat.le_refl _)
