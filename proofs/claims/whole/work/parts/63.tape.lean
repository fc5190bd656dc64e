/-! the tape read as a plan: blanks, numbers, pieces -/
def skF (tp : Nat → Int32) : Nat → Nat → Nat
  | 0, a => a
  | d + 1, a => if tp a = 32 then skF tp d (a + 1) else a
def sk (tp : Nat → Int32) (t a : Nat) : Nat := skF tp (t - a) a
theorem sk_e {tp : Nat → Int32} {t a : Nat} (h : t ≤ a) : sk tp t a = a := by
  unfold sk; rw [Nat.sub_eq_zero_of_le h]; rfl
theorem sk_n {tp : Nat → Int32} {t a : Nat} (h : ¬ tp a = 32) : sk tp t a = a := by
  unfold sk
  cases t - a with
  | zero => rfl
  | succ d => show (if _ then _ else _) = _; rw [if_neg h]
theorem sk_s {tp : Nat → Int32} {t a : Nat} (h : a < t) (hb : tp a = 32) : sk tp t a = sk tp t (a + 1) := by
  unfold sk
  rw [show t - a = (t - (a + 1)) + 1 by omega]
  show (if _ then _ else _) = _
  rw [if_pos hb]
theorem sk_pr {tp : Nat → Int32} {t : Nat} : ∀ (d a : Nat), a + d = t → a ≤ sk tp t a ∧ sk tp t a ≤ t ∧ (sk tp t a < t → ¬ tp (sk tp t a) = 32)
  | 0, a, h => by rw [sk_e (by omega)]; exact ⟨Nat.le_refl _, by omega, fun q => by omega⟩
  | d + 1, a, h => by
    by_cases hb : tp a = 32
    · rw [sk_s (by omega) hb]
      have := sk_pr (tp := tp) (t := t) d (a + 1) (by omega)
      exact ⟨by omega, this.2⟩
    · rw [sk_n hb]
      exact ⟨Nat.le_refl _, by omega, fun _ => hb⟩
theorem sk_ge {tp : Nat → Int32} {t a : Nat} (h : a ≤ t) : a ≤ sk tp t a := (sk_pr (t - a) a (by omega)).1
theorem sk_le {tp : Nat → Int32} {t a : Nat} (h : a ≤ t) : sk tp t a ≤ t := (sk_pr (t - a) a (by omega)).2.1
theorem sk_id {tp : Nat → Int32} {t a : Nat} (h : a ≤ t) : sk tp t (sk tp t a) = sk tp t a := by
  rcases Nat.lt_or_ge (sk tp t a) t with q | q
  · exact sk_n ((sk_pr (t - a) a (by omega)).2.2 q)
  · exact sk_e q
/-- the letter that comes next, or -1 -/
def hV (tp : Nat → Int32) (t a : Nat) : Int32 := if t ≤ sk tp t a then -1 else tp (sk tp t a)
theorem hV_c {tp : Nat → Int32} {t a : Nat} {c : Int32} (hc : ¬ (-1 : Int32) = c) : hV tp t a = c ↔ (sk tp t a < t ∧ tp (sk tp t a) = c) := by
  unfold hV
  by_cases h : t ≤ sk tp t a
  · rw [if_pos h]; exact ⟨fun q => absurd q hc, fun q => by omega⟩
  · rw [if_neg h]; exact ⟨fun q => ⟨by omega, q⟩, fun q => q.2⟩
abbrev TPo (tp : Nat → Int32) (t : Nat) : Prop := ∀ j, j < t → 32 ≤ tp j ∧ tp j ≤ 126
theorem hV_ge {tp : Nat → Int32} {t a : Nat} (ho : TPo tp t) : 0 ≤ hV tp t a ↔ sk tp t a < t := by
  unfold hV
  by_cases h : t ≤ sk tp t a
  · rw [if_pos h]; exact ⟨fun q => absurd q (by decide), fun q => by omega⟩
  · rw [if_neg h]
    have := (ho _ (show sk tp t a < t by omega)).1
    refine ⟨fun _ => by omega, fun _ => ?_⟩
    rw [fb_le] at this ⊢
    have e1 : (32 : Int32).toInt = 32 := rfl
    have e2 : (0 : Int32).toInt = 0 := rfl
    omega
abbrev dgA (tp : Nat → Int32) (t a : Nat) : Prop := a < t ∧ 48 ≤ tp a ∧ tp a ≤ 57
theorem hV_dg {tp : Nat → Int32} {t a : Nat} : (48 ≤ hV tp t a ∧ hV tp t a ≤ 57) ↔ dgA tp t (sk tp t a) := by
  unfold hV
  by_cases h : t ≤ sk tp t a
  · rw [if_pos h]; exact ⟨fun q => absurd q.1 (by decide), fun q => by have := q.1; omega⟩
  · rw [if_neg h]; exact ⟨fun q => ⟨by omega, q⟩, fun q => q.2⟩
def sgv (le v : Int32) : Int32 := if le = 0 then v else -v
def dg1 (tp : Nat → Int32) (a : Nat) : Int32 := 10 * 0 + tp a - 48
def dg2 (tp : Nat → Int32) (a : Nat) : Int32 := 10 * dg1 tp a + tp (a + 1) - 48
theorem dg1_c {tp : Nat → Int32} {a : Nat} : (10 : Int32) * 0 + (tp a - 48) = dg1 tp a := by
  unfold dg1; rw [Int32.sub_eq_add_neg, Int32.sub_eq_add_neg, Int32.add_assoc]
theorem dg2_c {tp : Nat → Int32} {a : Nat} : 10 * dg1 tp a + (tp (a + 1) - 48) = dg2 tp a := by
  unfold dg2; rw [Int32.sub_eq_add_neg, Int32.sub_eq_add_neg, Int32.add_assoc]
def rN2 (tp : Nat → Int32) (t : Nat) (le : Int32) (a : Nat) : Option Int32 × Nat :=
  if dgA tp t (sk tp t a) then
    (if dgA tp t (sk tp t a + 1) then
      (if dgA tp t (sk tp t a + 2) then (none, sk tp t a + 2) else (some (sgv le (dg2 tp (sk tp t a))), sk tp t a + 2))
    else (some (sgv le (dg1 tp (sk tp t a))), sk tp t a + 1))
  else (none, sk tp t a)
section RN2
variable {tp : Nat → Int32} {t a : Nat} {le : Int32}
theorem rN2_0 (h : ¬ dgA tp t (sk tp t a)) : rN2 tp t le a = (none, sk tp t a) := by unfold rN2; rw [if_neg h]
theorem rN2_1 (h : dgA tp t (sk tp t a)) (h1 : ¬ dgA tp t (sk tp t a + 1)) : rN2 tp t le a = (some (sgv le (dg1 tp (sk tp t a))), sk tp t a + 1) := by unfold rN2; rw [if_pos h, if_neg h1]
theorem rN2_2 (h : dgA tp t (sk tp t a)) (h1 : dgA tp t (sk tp t a + 1)) (h2 : ¬ dgA tp t (sk tp t a + 2)) : rN2 tp t le a = (some (sgv le (dg2 tp (sk tp t a))), sk tp t a + 2) := by unfold rN2; rw [if_pos h, if_pos h1, if_neg h2]
theorem rN2_3 (h : dgA tp t (sk tp t a)) (h1 : dgA tp t (sk tp t a + 1)) (h2 : dgA tp t (sk tp t a + 2)) : rN2 tp t le a = (none, sk tp t a + 2) := by unfold rN2; rw [if_pos h, if_pos h1, if_pos h2]
theorem rN2_le (ha : a ≤ t) : (rN2 tp t le a).2 ≤ t := by
  have := sk_le (tp := tp) ha
  by_cases h : dgA tp t (sk tp t a)
  · have q := h.1
    by_cases h1 : dgA tp t (sk tp t a + 1)
    · have q1 := h1.1
      by_cases h2 : dgA tp t (sk tp t a + 2)
      · rw [rN2_3 h h1 h2]; exact h1.1
      · rw [rN2_2 h h1 h2]; exact h1.1
    · rw [rN2_1 h h1]; exact h.1
  · rw [rN2_0 h]; exact this
end RN2
def rNum (tp : Nat → Int32) (t a : Nat) : Option Int32 × Nat := if sk tp t a < t ∧ tp (sk tp t a) = 45 then rN2 tp t 1 (sk tp t a + 1) else rN2 tp t 0 (sk tp t a)
def rCm (tp : Nat → Int32) (t a : Nat) : Option Int32 × Nat := if sk tp t a < t ∧ tp (sk tp t a) = 44 then rNum tp t (sk tp t a + 1) else (none, sk tp t a)
abbrev kdV (c : Int32) : Int32 := if c = 108 then 0 else if c = 102 then 1 else if c = 101 then 2 else if c = 99 then 3 else if c = 114 then 4 else -1
def rPc (tp : Nat → Int32) (t a : Nat) : Option (Int32 × Int32 × Int32 × Int32) × Nat :=
  if 0 ≤ kdV (hV tp t a) then
    match rNum tp t (sk tp t a + 1) with
    | (none, a1) => (none, a1)
    | (some x, a1) => match rCm tp t a1 with
      | (none, a2) => (none, a2)
      | (some y, a2) => match rCm tp t a2 with
        | (none, a3) => (none, a3)
        | (some z, a3) => if okP (kdV (hV tp t a)) x y z then (some (kdV (hV tp t a), x, y, z), a3) else (none, sk tp t a)
  else (none, sk tp t a)
section RPC
variable {tp : Nat → Int32} {t a a1 a2 a3 : Nat} {x y z : Int32}
theorem rNum_1 (h : sk tp t a < t ∧ tp (sk tp t a) = 45) : rNum tp t a = rN2 tp t 1 (sk tp t a + 1) := by unfold rNum; rw [if_pos h]
theorem rNum_0 (h : ¬ (sk tp t a < t ∧ tp (sk tp t a) = 45)) : rNum tp t a = rN2 tp t 0 (sk tp t a) := by unfold rNum; rw [if_neg h]
theorem rCm_1 (h : sk tp t a < t ∧ tp (sk tp t a) = 44) : rCm tp t a = rNum tp t (sk tp t a + 1) := by unfold rCm; rw [if_pos h]
theorem rCm_0 (h : ¬ (sk tp t a < t ∧ tp (sk tp t a) = 44)) : rCm tp t a = (none, sk tp t a) := by unfold rCm; rw [if_neg h]
theorem rNum_le (ha : a ≤ t) : (rNum tp t a).2 ≤ t := by
  have := sk_le (tp := tp) ha
  by_cases h : sk tp t a < t ∧ tp (sk tp t a) = 45
  · rw [rNum_1 h]; exact rN2_le h.1
  · rw [rNum_0 h]; exact rN2_le this
theorem rCm_le (ha : a ≤ t) : (rCm tp t a).2 ≤ t := by
  have := sk_le (tp := tp) ha
  by_cases h : sk tp t a < t ∧ tp (sk tp t a) = 44
  · rw [rCm_1 h]; exact rNum_le h.1
  · rw [rCm_0 h]; exact this
theorem kdV_lt (ho : TPo tp t) (h : 0 ≤ kdV (hV tp t a)) : sk tp t a < t := by
  rcases Nat.lt_or_ge (sk tp t a) t with q | q
  · exact q
  · have : hV tp t a = -1 := by unfold hV; rw [if_pos q]
    rw [this] at h
    exact absurd h (by decide)
theorem rPc_k (h : ¬ 0 ≤ kdV (hV tp t a)) : rPc tp t a = (none, sk tp t a) := by unfold rPc; rw [if_neg h]
theorem rPc_1 (h : 0 ≤ kdV (hV tp t a)) (e1 : rNum tp t (sk tp t a + 1) = (none, a1)) : rPc tp t a = (none, a1) := by unfold rPc; rw [if_pos h, e1]
theorem rPc_2 (h : 0 ≤ kdV (hV tp t a)) (e1 : rNum tp t (sk tp t a + 1) = (some x, a1)) (e2 : rCm tp t a1 = (none, a2)) : rPc tp t a = (none, a2) := by
  unfold rPc; rw [if_pos h, e1]; show (match rCm tp t a1 with | (none, a2) => _ | (some y, a2) => _) = _; rw [e2]
theorem rPc_3 (h : 0 ≤ kdV (hV tp t a)) (e1 : rNum tp t (sk tp t a + 1) = (some x, a1)) (e2 : rCm tp t a1 = (some y, a2)) (e3 : rCm tp t a2 = (none, a3)) : rPc tp t a = (none, a3) := by
  simp only [rPc, if_pos h, e1, e2, e3]
theorem rPc_4 (h : 0 ≤ kdV (hV tp t a)) (e1 : rNum tp t (sk tp t a + 1) = (some x, a1)) (e2 : rCm tp t a1 = (some y, a2)) (e3 : rCm tp t a2 = (some z, a3)) (h4 : ¬ okP (kdV (hV tp t a)) x y z) : rPc tp t a = (none, sk tp t a) := by
  simp only [rPc, if_pos h, e1, e2, e3]; rw [if_neg h4]
theorem rPc_5 (h : 0 ≤ kdV (hV tp t a)) (e1 : rNum tp t (sk tp t a + 1) = (some x, a1)) (e2 : rCm tp t a1 = (some y, a2)) (e3 : rCm tp t a2 = (some z, a3)) (h4 : okP (kdV (hV tp t a)) x y z) : rPc tp t a = (some (kdV (hV tp t a), x, y, z), a3) := by
  simp only [rPc, if_pos h, e1, e2, e3]; rw [if_pos h4]
/-- the ways in which a piece can come out -/
theorem rPc_cs (ho : TPo tp t) (ha : a ≤ t) : (∃ a1, rPc tp t a = (none, a1) ∧ a1 ≤ t) ∨ (∃ kd x y z a1, rPc tp t a = (some (kd, x, y, z), a1) ∧ a1 ≤ t ∧ okP kd x y z) := by
  have h0 := sk_le (tp := tp) ha
  by_cases hk : 0 ≤ kdV (hV tp t a)
  · have hlt := kdV_lt ho hk
    have l1 := rNum_le (tp := tp) (t := t) (a := sk tp t a + 1) hlt
    rcases e1 : rNum tp t (sk tp t a + 1) with ⟨_ | x, a1⟩
    · rw [e1] at l1; exact Or.inl ⟨a1, rPc_1 hk e1, l1⟩
    · rw [e1] at l1
      have l2 := rCm_le (tp := tp) (t := t) (a := a1) l1
      rcases e2 : rCm tp t a1 with ⟨_ | y, a2⟩
      · rw [e2] at l2; exact Or.inl ⟨a2, rPc_2 hk e1 e2, l2⟩
      · rw [e2] at l2
        have l3 := rCm_le (tp := tp) (t := t) (a := a2) l2
        rcases e3 : rCm tp t a2 with ⟨_ | z, a3⟩
        · rw [e3] at l3; exact Or.inl ⟨a3, rPc_3 hk e1 e2 e3, l3⟩
        · rw [e3] at l3
          by_cases h4 : okP (kdV (hV tp t a)) x y z
          · exact Or.inr ⟨_, x, y, z, a3, rPc_5 hk e1 e2 e3 h4, l3, h4⟩
          · exact Or.inl ⟨_, rPc_4 hk e1 e2 e3 h4, h0⟩
  · exact Or.inl ⟨_, rPc_k hk, h0⟩
end RPC
abbrev rRs : Type := Option Nat × Nat × (Nat → Int32)
/-- the pieces of a plan from piece k, place a on -/
def rLp (tp : Nat → Int32) (t : Nat) : Nat → Nat → Nat → (Nat → Int32) → rRs
  | 0, _, a, q => (none, a, q)
  | d + 1, k, a, q => match rPc tp t a with
    | (none, a1) => (none, a1, q)
    | (some (kd, x, y, z), a1) => if t ≤ sk tp t a1 then (some (k + 1), sk tp t a1, lay q (4 * k) kd x y z) else if tp (sk tp t a1) = 59 ∧ k + 1 < 12 then rLp tp t d (k + 1) (sk tp t a1 + 1) (lay q (4 * k) kd x y z) else (none, sk tp t a1, lay q (4 * k) kd x y z)
def rPl (tp : Nat → Int32) (t : Nat) : rRs := if t ≤ sk tp t 0 then (some 0, sk tp t 0, fun _ => 0) else rLp tp t 12 0 (sk tp t 0) (fun _ => 0)
section RLP
variable {tp : Nat → Int32} {t d k a a1 : Nat} {q : Nat → Int32} {kd x y z : Int32}
theorem rLp_n (e : rPc tp t a = (none, a1)) : rLp tp t (d + 1) k a q = (none, a1, q) := by rw [rLp, e]
theorem rLp_e (e : rPc tp t a = (some (kd, x, y, z), a1)) (h : t ≤ sk tp t a1) : rLp tp t (d + 1) k a q = (some (k + 1), sk tp t a1, lay q (4 * k) kd x y z) := by
  rw [rLp, e]; show (if _ then _ else _) = _; rw [if_pos h]
theorem rLp_s (e : rPc tp t a = (some (kd, x, y, z), a1)) (h : ¬ t ≤ sk tp t a1) (h2 : tp (sk tp t a1) = 59 ∧ k + 1 < 12) : rLp tp t (d + 1) k a q = rLp tp t d (k + 1) (sk tp t a1 + 1) (lay q (4 * k) kd x y z) := by
  rw [rLp, e]; show (if _ then _ else _) = _; rw [if_neg h, if_pos h2]
theorem rLp_f (e : rPc tp t a = (some (kd, x, y, z), a1)) (h : ¬ t ≤ sk tp t a1) (h2 : ¬ (tp (sk tp t a1) = 59 ∧ k + 1 < 12)) : rLp tp t (d + 1) k a q = (none, sk tp t a1, lay q (4 * k) kd x y z) := by
  rw [rLp, e]; show (if _ then _ else _) = _; rw [if_neg h, if_neg h2]
end RLP
/-- the answer of a plan -/
def plA (s : rRs) : Int32 := match s.1 with
  | some N => nI N
  | none => -1000020 - nI s.2.1
theorem ly_lo {q : Nat → Int32} {c j : Nat} {k x y z : Int32} (h : j < c) : lay q c k x y z j = q j := by
  unfold lay upd
  rw [if_neg (by omega), if_neg (by omega), if_neg (by omega), if_neg (by omega)]
theorem ly_hi {q : Nat → Int32} {c j : Nat} {k x y z : Int32} (h : c + 4 ≤ j) : lay q c k x y z j = q j := by
  unfold lay upd
  rw [if_neg (by omega), if_neg (by omega), if_neg (by omega), if_neg (by omega)]
theorem lay_c0 {q : Nat → Int32} {c : Nat} {k x y z : Int32} : lay q c k x y z c = k := by
  unfold lay upd
  rw [if_neg (by omega), if_neg (by omega), if_neg (by omega), if_pos rfl]
theorem lay_c1 {q : Nat → Int32} {c : Nat} {k x y z : Int32} : lay q c k x y z (c + 1) = x := by
  unfold lay upd
  rw [if_neg (by omega), if_neg (by omega), if_pos rfl]
theorem lay_c2 {q : Nat → Int32} {c : Nat} {k x y z : Int32} : lay q c k x y z (c + 2) = y := by
  unfold lay upd
  rw [if_neg (by omega), if_pos rfl]
theorem lay_c3 {q : Nat → Int32} {c : Nat} {k x y z : Int32} : lay q c k x y z (c + 3) = z := by
  unfold lay upd
  rw [if_pos rfl]
/-- the row that a plan makes -/
def plR (r q : Nat → Int32) : Nat → Nat → Int32
  | 0 => clrR r
  | k + 1 => pushR (plR r q k) k (q (4 * k)) (q (4 * k + 1)) (q (4 * k + 2)) (q (4 * k + 3))
theorem plR_at (r q : Nat → Int32) : ∀ (N c : Nat), plR r q N c = if c = 4 then r 4 else if c = 5 then -1 else if c = 12 then nI N else if 13 ≤ c ∧ c < 13 + 4 * N then q (c - 13) else 0
  | 0, c => by
    show clrR r c = _
    unfold clrR
    by_cases h4 : c = 4
    · rw [if_pos h4, if_pos h4]
    · rw [if_neg h4, if_neg h4]
      by_cases h5 : c = 5
      · rw [if_pos h5, if_pos h5]
      · rw [if_neg h5, if_neg h5, if_neg (show ¬ (13 ≤ c ∧ c < 13 + 4 * 0) by omega)]
        split <;> rfl
  | N + 1, c => by
    have ih := plR_at r q N c
    show pushR (plR r q N) N _ _ _ _ c = _
    unfold pushR
    by_cases h12 : c = 12
    · subst h12
      rw [if_neg (by decide), if_neg (by decide), if_pos rfl]
      unfold upd; rw [if_pos rfl]
    · have e : upd (lay (plR r q N) (13 + 4 * N) (q (4 * N)) (q (4 * N + 1)) (q (4 * N + 2)) (q (4 * N + 3))) 12 (nI (N + 1)) c = lay (plR r q N) (13 + 4 * N) (q (4 * N)) (q (4 * N + 1)) (q (4 * N + 2)) (q (4 * N + 3)) c := by unfold upd; rw [if_neg h12]
      rw [e]
      rw [if_neg h12] at ih ⊢
      by_cases h1 : c < 13 + 4 * N
      · rw [ly_lo h1, ih]
        by_cases h4 : c = 4
        · rw [if_pos h4, if_pos h4]
        · rw [if_neg h4, if_neg h4]
          by_cases h5 : c = 5
          · rw [if_pos h5, if_pos h5]
          · rw [if_neg h5, if_neg h5]
            by_cases h13 : 13 ≤ c
            · rw [if_pos ⟨h13, h1⟩, if_pos ⟨h13, by omega⟩]
            · rw [if_neg (by omega), if_neg (by omega)]
      · rw [if_neg (by omega), if_neg (by omega)]
        by_cases h2 : c < 13 + 4 * N + 4
        · rw [if_pos ⟨by omega, by omega⟩]
          rcases (show c = 13 + 4 * N ∨ c = 13 + 4 * N + 1 ∨ c = 13 + 4 * N + 2 ∨ c = 13 + 4 * N + 3 by omega) with rfl | rfl | rfl | rfl
          · rw [lay_c0]; congr 1; omega
          · rw [lay_c1]; congr 1; omega
          · rw [lay_c2]; congr 1; omega
          · rw [lay_c3]; congr 1; omega
        · rw [ly_hi (by omega), if_neg (by omega), ih, if_neg (by omega), if_neg (by omega), if_neg (by omega)]
theorem jn_ext {W W2 : Nat → Nat → Int32} (h : ∀ q c, c < 61 → W q c = W2 q c) : jn W = jn W2 := by
  funext j; exact h _ _ (Nat.mod_lt _ (by omega))
