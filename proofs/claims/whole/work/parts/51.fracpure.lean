/-! the greatest common divisor, and the greatest of fractions -/
theorem cd_nat : ∀ K k g l : Nat, l < 2 ^ K → K ≤ 30 → 2 * K + 1 ≤ k → g < 2 ^ 31 → cdV k (nI g) (nI l) = nI (Nat.gcd g l)
  | 0, 0, g, l, h1, _, h2, h3 => by omega
  | 0, k + 1, g, l, h1, _, h2, h3 => by
    obtain rfl : l = 0 := by simpa using h1
    rw [cdV, if_pos nI_0, Nat.gcd_zero_right]
  | K + 1, 0, g, l, h1, _, h2, h3 => by omega
  | K + 1, 1, g, l, h1, _, h2, h3 => by omega
  | K + 1, k + 2, g, l, h1, hK, h2, h3 => by
    have hp : 2 ^ (K + 1) ≤ 2 ^ 30 := Nat.pow_le_pow_right (by omega) hK
    by_cases e : l = 0
    · subst e; rw [cdV, if_pos nI_0, Nat.gcd_zero_right]
    · rw [cdV, if_neg (nI_ne0 (by omega) (by omega)), pk_rem h3 (by omega) (by omega)]
      have hm : g % l < l := Nat.mod_lt _ (by omega)
      by_cases e1 : g % l = 0
      · rw [e1, cdV, if_pos nI_0]
        rw [Nat.gcd_comm, Nat.gcd_rec, e1, Nat.gcd_zero_left]
      · rw [cdV, if_neg (nI_ne0 (by omega) (by omega)), pk_rem (by omega) (by omega) (by omega)]
        have hm2 : l % (g % l) < g % l := Nat.mod_lt _ (by omega)
        have hm3 : l % (g % l) + g % l ≤ l := by
          have := Nat.mod_add_div l (g % l)
          have h1 : 1 ≤ l / (g % l) := Nat.div_pos (by omega) (by omega)
          have : g % l ≤ (g % l) * (l / (g % l)) := Nat.le_mul_of_pos_right _ h1
          omega
        have hp2 : 2 ^ (K + 1) = 2 * 2 ^ K := by rw [Nat.pow_succ]; omega
        rw [cd_nat K k (g % l) (l % (g % l)) (by omega) (by omega) (by omega) (by omega)]
        rw [Nat.gcd_comm g l, Nat.gcd_rec l g, Nat.gcd_comm (g % l) (l % (g % l)), ← Nat.gcd_rec (g % l) l]
def lw (a b : Nat) (x : Int32) : Int32 := nI ((if x = 0 then a else b) / Nat.gcd b a)
theorem lw_eq {a b : Nat} (hb : 0 < b) (ha : a < 2 ^ 26) (hb2 : b < 2 ^ 31) (x : Int32) : (¬ cdV 64 (nI b) (nI a) = 0) ∧ (if x = 0 then nI a else nI b) / cdV 64 (nI b) (nI a) = lw a b x := by
  have e := cd_nat 26 64 b a ha (by omega) (by omega) hb2
  have hg : 0 < Nat.gcd b a := Nat.gcd_pos_of_pos_left _ hb
  have hg2 : Nat.gcd b a ≤ b := Nat.gcd_le_left _ hb
  rw [e]
  refine ⟨nI_ne0 hg (by omega), ?_⟩
  unfold lw
  by_cases hx : x = 0
  · rw [if_pos hx, if_pos hx]; exact pk_div (by omega) hg (by omega)
  · rw [if_neg hx, if_neg hx]; exact pk_div (by omega) hg (by omega)
theorem frac_low {a b c d : Nat} (hb : 0 < b) (hd : 0 < d) (h : a * d = c * b) : a / Nat.gcd b a = c / Nat.gcd d c ∧ b / Nat.gcd b a = d / Nat.gcd d c := by
  have g1 : 0 < Nat.gcd b a := Nat.gcd_pos_of_pos_left _ hb
  have g2 : 0 < Nat.gcd d c := Nat.gcd_pos_of_pos_left _ hd
  have c1 := Nat.coprime_div_gcd_div_gcd g1
  have c2 := Nat.coprime_div_gcd_div_gcd g2
  obtain ⟨y, hy⟩ := Nat.gcd_dvd_left b a
  obtain ⟨x, hx⟩ := Nat.gcd_dvd_right b a
  obtain ⟨y', hy'⟩ := Nat.gcd_dvd_left d c
  obtain ⟨x', hx'⟩ := Nat.gcd_dvd_right d c
  generalize Nat.gcd b a = p at *
  generalize Nat.gcd d c = q at *
  subst hy; subst hx; subst hy'; subst hx'
  rw [Nat.mul_div_cancel_left _ g1, Nat.mul_div_cancel_left _ g1] at c1
  rw [Nat.mul_div_cancel_left _ g2, Nat.mul_div_cancel_left _ g2] at c2
  rw [Nat.mul_div_cancel_left _ g1, Nat.mul_div_cancel_left _ g1, Nat.mul_div_cancel_left _ g2, Nat.mul_div_cancel_left _ g2]
  have hxy : x * y' = x' * y := by
    have h' : p * q * (x * y') = p * q * (x' * y) := by
      have e1 : p * q * (x * y') = p * x * (q * y') := by ac_rfl
      have e2 : p * q * (x' * y) = q * x' * (p * y) := by ac_rfl
      rw [e1, e2]; exact h
    exact Nat.eq_of_mul_eq_mul_left (Nat.mul_pos g1 g2) h'
  have hy0 : 0 < y := Nat.pos_of_ne_zero (fun e => by rw [e, Nat.mul_zero] at hb; omega)
  have d1 : y ∣ y' := c1.dvd_of_dvd_mul_left (k := y) (m := x) (n := y') ⟨x', by rw [hxy, Nat.mul_comm]⟩
  have d2 : y' ∣ y := c2.dvd_of_dvd_mul_left (k := y') (m := x') (n := y) ⟨x, by rw [← hxy, Nat.mul_comm]⟩
  have ey : y = y' := Nat.dvd_antisymm d1 d2
  subst ey
  exact ⟨Nat.eq_of_mul_eq_mul_right hy0 hxy, rfl⟩
/-- a by b is the greatest of these fractions, or 0 by 1 -/
def MX (S : Nat → Nat → Prop) (a b : Nat) : Prop := 1 ≤ b ∧ b ≤ 15 ∧ a ≤ 1000 ∧ ((a = 0 ∧ b = 1) ∨ S a b) ∧ ∀ x t, S x t → x * b ≤ a * t
theorem MX_congr {S S2 : Nat → Nat → Prop} {a b : Nat} (h : ∀ x t, S2 x t ↔ S x t) (hm : MX S a b) : MX S2 a b := by
  obtain ⟨h1, h2, h3, h4, h5⟩ := hm
  refine ⟨h1, h2, h3, ?_, fun x t q => h5 x t ((h x t).mp q)⟩
  rcases h4 with q | q
  · exact Or.inl q
  · exact Or.inr ((h a b).mpr q)
theorem MX_0 : MX (fun _ _ => False) 0 1 := ⟨by omega, by omega, by omega, Or.inl ⟨rfl, rfl⟩, fun _ _ h => h.elim⟩
def insF (S : Nat → Nat → Prop) (x t : Nat) : Nat → Nat → Prop := fun y u => S y u ∨ (y = x ∧ u = t)
theorem MX_ins {S : Nat → Nat → Prop} {a b x t : Nat} (hm : MX S a b) (hx : x ≤ 1000) (ht : 1 ≤ t ∧ t ≤ 15) : MX (insF S x t) (if x * b ≤ a * t then a else x) (if x * b ≤ a * t then b else t) := by
  obtain ⟨h1, h2, h3, h4, h5⟩ := hm
  by_cases e : x * b ≤ a * t
  · rw [if_pos e, if_pos e]
    refine ⟨h1, h2, h3, ?_, fun y u q => ?_⟩
    · rcases h4 with q | q
      · exact Or.inl q
      · exact Or.inr (Or.inl q)
    · rcases q with q | ⟨rfl, rfl⟩
      · exact h5 y u q
      · exact e
  · rw [if_neg e, if_neg e]
    refine ⟨ht.1, ht.2, hx, Or.inr (Or.inr ⟨rfl, rfl⟩), fun y u q => ?_⟩
    rcases q with q | ⟨rfl, rfl⟩
    · have a1 := h5 y u q
      have a2 : y * b * t ≤ a * u * t := Nat.mul_le_mul_right _ a1
      have a3 : a * t * u ≤ x * b * u := Nat.mul_le_mul_right _ (by omega)
      have e1 : y * t * b = y * b * t := by ac_rfl
      have e2 : a * u * t = a * t * u := by ac_rfl
      have e3 : x * u * b = x * b * u := by ac_rfl
      exact Nat.le_of_mul_le_mul_right (by rw [e1, e3]; omega) h1
    · exact Nat.le_refl _
theorem MX_ins32 {S : Nat → Nat → Prop} {a b x t : Nat} (hm : MX S a b) (hx : x ≤ 1000) (ht : 1 ≤ t ∧ t ≤ 15) : ∃ a2 b2, MX (insF S x t) a2 b2 ∧ (if nI x * nI b ≤ nI a * nI t then nI a else nI x) = nI a2 ∧ (if nI x * nI b ≤ nI a * nI t then nI b else nI t) = nI b2 := by
  refine ⟨_, _, MX_ins hm hx ht, ?_, ?_⟩
  all_goals
    have hb := hm.2.1
    have ha := hm.2.2.1
    have m1 : x * b ≤ 1000 * 15 := Nat.mul_le_mul hx hb
    have m2 : a * t ≤ 1000 * 15 := Nat.mul_le_mul ha ht.2
    rw [pk_mul, pk_mul]
    by_cases e : x * b ≤ a * t
    · rw [if_pos (nI_le e (by omega)), if_pos e]
    · rw [if_neg (nI_ge (by omega) (by omega)), if_neg e]
theorem MX_uni {S : Nat → Nat → Prop} {a b c d : Nat} (h1 : MX S a b) (h2 : MX S c d) (x : Int32) : lw a b x = lw c d x := by
  have key : ∀ {a b c d : Nat}, MX S a b → MX S c d → c * b ≤ a * d := by
    intro a b c d h1 h2
    rcases h2.2.2.2.1 with ⟨rfl, rfl⟩ | q
    · omega
    · exact h1.2.2.2.2 _ _ q
  have e : a * d = c * b := Nat.le_antisymm (key h2 h1) (key h1 h2)
  obtain ⟨q1, q2⟩ := frac_low h1.1 h2.1 e
  unfold lw
  by_cases hx : x = 0
  · rw [if_pos hx, if_pos hx, q1]
  · rw [if_neg hx, if_neg hx, q2]
/-! how far a piece's axis is off its true line -/
theorem mulT {x y : Int32} (h : -1000000 < x.toInt * y.toInt ∧ x.toInt * y.toInt < 1000000) : (x * y).toInt = x.toInt * y.toInt := by
  rw [Int32.toInt_mul]; apply Int.bmod_eq_of_le <;> omega
theorem subT {x y : Int32} (h : -1000000 < x.toInt - y.toInt ∧ x.toInt - y.toInt < 1000000) : (x - y).toInt = x.toInt - y.toInt := by
  rw [Int32.toInt_sub]; apply Int.bmod_eq_of_le <;> omega
def wI (a b c : Int32) (i : Nat) : Int32 := if i = 0 then a else if i = 1 then b else c
def offV (kd a b c : Int32) (i j : Nat) : Int32 := rSz (rGone kd (wI a b c i) (rTurns a b c) (nI j) * rTurns a b c - nI j * wI a b c i)
def oN (kd a b c : Int32) (i j : Nat) : Nat := (offV kd a b c i j).toInt.natAbs
theorem wI_int {kd a b c : Int32} (h : okP kd a b c) (h3 : ¬ 3 ≤ kd) (i : Nat) : (-15 ≤ (wI a b c i).toInt ∧ (wI a b c i).toInt ≤ 15) ∧ (wI a b c i).toInt.natAbs ≤ rTn a b c ∧ 1 ≤ rTn a b c ∧ rTn a b c ≤ 15 ∧ rTurns a b c = nI (rTn a b c) := by
  have hi := okP_int h
  rw [fb_le, ti_3] at h3
  rcases hi.2 with q | q
  · omega
  · refine ⟨?_, ?_, ?_, ?_, rTurns_eq (by omega) (by omega) (by omega)⟩
    · unfold wI; split
      · omega
      · split <;> omega
    · unfold wI rTn; split
      · omega
      · split <;> omega
    · unfold rTn; omega
    · unfold rTn; omega
theorem gone_int {kd a b c : Int32} (h : okP kd a b c) (h3 : ¬ 3 ≤ kd) (i : Nat) {j : Nat} (hj : j ≤ rTn a b c) : -15 ≤ (rGone kd (wI a b c i) (rTurns a b c) (nI j)).toInt ∧ (rGone kd (wI a b c i) (rTurns a b c) (nI j)).toInt ≤ 15 := by
  obtain ⟨w1, w2, t1, t2, t3⟩ := wI_int h h3 i
  have hf : ∃ g : Nat, g ≤ 15 ∧ rFar kd (wI a b c i) (rTurns a b c) (nI j) = nI g := by
    by_cases k1 : kd = 1
    · unfold rFar
      rw [if_pos k1, rSz_eq (by omega) (by omega)]
      split
      · exact ⟨_, by omega, rfl⟩
      · exact ⟨j, by omega, rfl⟩
    · rw [t3, far_nat k1 w1 (by omega) (by omega) hj]
      exact ⟨_, gN_le _ (by omega) (by omega) _ w2 _ hj, rfl⟩
  obtain ⟨g, hg, e⟩ := hf
  unfold rGone
  rw [e]
  split
  · rw [nI_toInt (by omega)]; omega
  · rw [ti_neg (by rw [nI_toInt (by omega)]; omega), nI_toInt (by omega)]; omega
theorem off_nat {kd a b c : Int32} (h : okP kd a b c) (h3 : ¬ 3 ≤ kd) (i : Nat) {j : Nat} (hj : j ≤ rTn a b c) : offV kd a b c i j = nI (oN kd a b c i j) ∧ oN kd a b c i j ≤ 1000 := by
  obtain ⟨w1, w2, t1, t2, t3⟩ := wI_int h h3 i
  have hg := gone_int h h3 i hj
  have ht : (rTurns a b c).toInt = rTn a b c := by rw [t3, nI_toInt (by omega)]
  have hjt : (nI j).toInt = j := nI_toInt (by omega)
  have bnd : ∀ x y : Int, -15 ≤ x → x ≤ 15 → -15 ≤ y → y ≤ 15 → -225 ≤ x * y ∧ x * y ≤ 225 := by
    intro x y a1 a2 a3 a4
    have : (x * y).natAbs ≤ 15 * 15 := by rw [Int.natAbs_mul]; exact Nat.mul_le_mul (by omega) (by omega)
    omega
  have b1 := bnd _ _ hg.1 hg.2 (show -15 ≤ (rTurns a b c).toInt by rw [ht]; omega) (by rw [ht]; omega)
  have b2 := bnd _ _ (show -15 ≤ (nI j).toInt by rw [hjt]; omega) (by rw [hjt]; omega) w1.1 w1.2
  have e1 := mulT (x := rGone kd (wI a b c i) (rTurns a b c) (nI j)) (y := rTurns a b c) (by omega)
  have e2 := mulT (x := nI j) (y := wI a b c i) (by omega)
  have e3 := subT (x := rGone kd (wI a b c i) (rTurns a b c) (nI j) * rTurns a b c) (y := nI j * wI a b c i) (by rw [e1, e2]; omega)
  have hv : offV kd a b c i j = nI (rGone kd (wI a b c i) (rTurns a b c) (nI j) * rTurns a b c - nI j * wI a b c i).toInt.natAbs := by
    unfold offV
    exact rSz_eq (by rw [e3, e1, e2]; omega) (by rw [e3, e1, e2]; omega)
  have hn : oN kd a b c i j = (rGone kd (wI a b c i) (rTurns a b c) (nI j) * rTurns a b c - nI j * wI a b c i).toInt.natAbs := by
    unfold oN
    rw [hv, nI_toInt (by rw [e3, e1, e2]; omega)]
    rfl
  rw [hn]
  exact ⟨hv, by rw [e3, e1, e2]; omega⟩
/-- the fractions of a piece -/
def SP (kd a b c : Int32) (x t : Nat) : Prop := ¬ 3 ≤ kd ∧ ∃ i j, i < 3 ∧ 1 ≤ j ∧ j ≤ rTn a b c ∧ x = oN kd a b c i j ∧ t = rTn a b c
def SA (r : Nat → Int32) (m : Nat) (x t : Nat) : Prop := (0 ≤ r 5 ∧ SP (r 5) (r 6) (r 7) (r 8) x t) ∨ ∃ k, k < m ∧ SP (r (13 + 4 * k)) (r (13 + 4 * k + 1)) (r (13 + 4 * k + 2)) (r (13 + 4 * k + 3)) x t
theorem gone_q {q : Nat → Int32} (h : okP (q 0) (q 1) (q 2) (q 3)) (h3 : ¬ 3 ≤ q 0) {i : Nat} (hi : i < 3) (k : Int32) : wayQ q (nI i) = wI (q 1) (q 2) (q 3) i ∧ turnsQ q = rTurns (q 1) (q 2) (q 3) ∧ goneQ q k (nI i) = rGone (q 0) (wI (q 1) (q 2) (q 3) i) (rTurns (q 1) (q 2) (q 3)) k := by
  obtain ⟨w1, w2, t1, t2, t3⟩ := wI_int h h3 i
  have hl := okP_int h
  have hw : wayQ q (nI i) = wI (q 1) (q 2) (q 3) i := by
    unfold wayQ wI
    rcases (show i = 0 ∨ i = 1 ∨ i = 2 by omega) with rfl | rfl | rfl
    · rw [if_pos (by decide), if_pos rfl]
    · rw [if_neg (by decide), if_pos (by decide), if_neg (by omega), if_pos rfl]
    · rw [if_neg (by decide), if_neg (by decide), if_neg (by omega), if_neg (by omega)]
  have ht : turnsQ q = rTurns (q 1) (q 2) (q 3) := by
    rw [t3]
    rw [fb_le, ti_3] at h3
    exact turnsQ_eq (by omega) (by omega) (by omega)
  refine ⟨hw, ht, ?_⟩
  unfold goneQ rGone
  have e : farQ q k (nI i) = rFar (q 0) (wI (q 1) (q 2) (q 3) i) (rTurns (q 1) (q 2) (q 3)) k := by
    unfold farQ rFar
    rw [hw, ab_sz]
    by_cases k1 : q 0 = 1
    · rw [if_pos k1, if_pos k1]
      unfold mn
      by_cases a : rSz (wI (q 1) (q 2) (q 3) i) < k
      · rw [if_pos a, if_pos (by rw [fb_le]; rw [fb_lt] at a; omega)]
      · rw [if_neg a]
        by_cases b : rSz (wI (q 1) (q 2) (q 3) i) ≤ k
        · rw [if_pos b]
          rw [fb_eq]; rw [fb_lt] at a; rw [fb_le] at b; omega
        · rw [if_neg b]
    · rw [if_neg k1, if_neg k1]
      unfold nearQ
      rw [ht, if_pos (by rw [t3, fb_lt, ti_0, nI_toInt (by omega)]; omega), Int32.mul_assoc]
  rw [hw, e]
