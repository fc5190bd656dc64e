abbrev eSt (B : Nat) (w bz hd dw : Int32) : ax_E := .inr (5, [.ref (B + 1), .ref (B + 2), .int w, .ref (B + 3), .int bz, .int hd, .int dw])
abbrev rwF (B : Nat) (pi : Nat → Nat) : Nat → Option Nat := fun k => some (B + 4 + pi k)
/-- the sixteen cells of a state over a heap h -/
def stU (h : ax_H) (B : Nat) (sp : Nat → Int32) (pi : Nat → Nat) (pp : Nat → Nat → Int32) (w : Int32) (nw : Nat → Int32) (bz hd dw : Int32) : ax_H := fun j => if j = B then some (eSt B w bz hd dw) else if j = B + 1 then some (ax_I 3 sp) else if j = B + 2 then some (ax_R 3 12 (rwF B pi)) else if j = B + 3 then some (ePc nw) else if B + 4 ≤ j ∧ j < B + 16 then some (ePc (pp (j - (B + 4)))) else h j
/-- what is known of a state's cells -/
def SF (h : ax_H) (B : Nat) (sp : Nat → Int32) (pi : Nat → Nat) (pp : Nat → Nat → Int32) (w : Int32) (nw : Nat → Int32) (bz hd dw : Int32) : Prop := h B = some (eSt B w bz hd dw) ∧ h (B + 1) = some (ax_I 3 sp) ∧ h (B + 2) = some (ax_R 3 12 (rwF B pi)) ∧ h (B + 3) = some (ePc nw) ∧ ∀ i, i < 12 → h (B + 4 + i) = some (ePc (pp i))
section SUS
variable {h : ax_H} {B : Nat} {sp : Nat → Int32} {pi : Nat → Nat} {pp : Nat → Nat → Int32} {w : Int32} {nw : Nat → Int32} {bz hd dw : Int32}
theorem su_0 : (stU h B sp pi pp w nw bz hd dw) B = some (eSt B w bz hd dw) := by simp [stU]
theorem su_1 : (stU h B sp pi pp w nw bz hd dw) (B + 1) = some (ax_I 3 sp) := by simp [stU]
theorem su_2 : (stU h B sp pi pp w nw bz hd dw) (B + 2) = some (ax_R 3 12 (rwF B pi)) := by simp [stU]
theorem su_3 : (stU h B sp pi pp w nw bz hd dw) (B + 3) = some (ePc nw) := by simp [stU]
theorem su_p {i : Nat} (hi : i < 12) : (stU h B sp pi pp w nw bz hd dw) (B + 4 + i) = some (ePc (pp i)) := by
  unfold stU
  rw [if_neg (by omega), if_neg (by omega), if_neg (by omega), if_neg (by omega), if_pos (by omega), Nat.add_sub_cancel_left]
theorem su_n {j : Nat} (hj : j < B ∨ B + 16 ≤ j) : (stU h B sp pi pp w nw bz hd dw) j = h j := by
  unfold stU
  rw [if_neg (by omega), if_neg (by omega), if_neg (by omega), if_neg (by omega), if_neg (by omega)]
theorem su_o {j : Nat} {e : ax_E} (hj : j < B ∨ B + 16 ≤ j) (he : h j = some e) : (stU h B sp pi pp w nw bz hd dw) j = some e := by rw [su_n hj]; exact he
theorem su_q0 {w2 bz2 hd2 dw2 : Int32} : hp (stU h B sp pi pp w nw bz hd dw) B (eSt B w2 bz2 hd2 dw2) = (stU h B sp pi pp (w2) nw (bz2) (hd2) (dw2)) := by
  funext j
  by_cases h1 : j = B
  · subst h1; simp [hp, stU]
  · simp [hp, stU, h1]
theorem su_q1 {sp2 : Nat → Int32} : hp (stU h B sp pi pp w nw bz hd dw) (B + 1) (ax_I 3 sp2) = (stU h B (sp2) pi pp w nw bz hd dw) := by
  funext j
  by_cases h1 : j = B + 1
  · subst h1; simp [hp, stU]
  · simp [hp, stU, h1]
theorem su_q2 {K i : Nat} : hp (stU h B sp pi pp w nw bz hd dw) (B + 2) (ax_R 3 12 (va_up (rwF B pi) K (some (B + 4 + i)))) = (stU h B sp (va_up pi K i) pp w nw bz hd dw) := by
  have e : va_up (rwF B pi) K (some (B + 4 + i)) = rwF B (va_up pi K i) := by
    funext k
    by_cases hk : k = K <;> simp [va_up, rwF, hk]
  rw [e]
  funext j
  by_cases h1 : j = B + 2
  · subst h1; simp [hp, stU]
  · simp [hp, stU, h1]
theorem su_q3 {q : Nat → Int32} : hp (stU h B sp pi pp w nw bz hd dw) (B + 3) (ePc q) = (stU h B sp pi pp w (q) bz hd dw) := by
  funext j
  by_cases h1 : j = B + 3
  · subst h1; simp [hp, stU]
  · simp [hp, stU, h1]
theorem su_qp {i : Nat} {q : Nat → Int32} (hi : i < 12) : hp (stU h B sp pi pp w nw bz hd dw) (B + 4 + i) (ePc q) = (stU h B sp pi (va_up pp i q) w nw bz hd dw) := by
  funext j
  by_cases h1 : j = B + 4 + i
  · subst h1
    rw [hp_s, su_p (pp := va_up pp i q) hi, va_up, if_pos rfl]
  · rw [hp_n _ _ h1]
    by_cases h2 : B + 4 ≤ j ∧ j < B + 16
    · obtain ⟨k, rfl⟩ : ∃ k, j = B + 4 + k := ⟨j - (B + 4), by omega⟩
      rw [su_p (by omega), su_p (by omega)]
      rw [va_up, if_neg (by omega)]
    · simp [stU, h2]
theorem SF_su : SF (stU h B sp pi pp w nw bz hd dw) B sp pi pp w nw bz hd dw := ⟨su_0, su_1, su_2, su_3, fun _ hi => su_p hi⟩
theorem su_id (hS : SF h B sp pi pp w nw bz hd dw) : (stU h B sp pi pp w nw bz hd dw) = h := by
  obtain ⟨h0, h1, h2, h3, h4⟩ := hS
  funext j
  unfold stU
  by_cases q0 : j = B
  · subst q0; rw [if_pos rfl, h0]
  · rw [if_neg q0]
    by_cases q1 : j = B + 1
    · subst q1; rw [if_pos rfl, h1]
    · rw [if_neg q1]
      by_cases q2 : j = B + 2
      · subst q2; rw [if_pos rfl, h2]
      · rw [if_neg q2]
        by_cases q3 : j = B + 3
        · subst q3; rw [if_pos rfl, h3]
        · rw [if_neg q3]
          by_cases q4 : B + 4 ≤ j ∧ j < B + 16
          · obtain ⟨k, rfl⟩ : ∃ k, j = B + 4 + k := ⟨j - (B + 4), by omega⟩
            rw [if_pos q4, Nat.add_sub_cancel_left, h4 k (by omega)]
          · rw [if_neg q4]
/-- a state's facts stand over a heap that is the same on its cells -/
theorem SF.fr {h2 : ax_H} (hS : SF h B sp pi pp w nw bz hd dw) (he : ∀ j, B ≤ j → j < B + 16 → h2 j = h j) : SF h2 B sp pi pp w nw bz hd dw := by
  obtain ⟨h0, h1, h2', h3, h4⟩ := hS
  refine ⟨?_, ?_, ?_, ?_, fun i hi => ?_⟩
  · rw [he _ (by omega) (by omega)]; exact h0
  · rw [he _ (by omega) (by omega)]; exact h1
  · rw [he _ (by omega) (by omega)]; exact h2'
  · rw [he _ (by omega) (by omega)]; exact h3
  · rw [he _ (by omega) (by omega)]; exact h4 i hi
end SUS
set_option maxHeartbeats 400000 in
set_option maxRecDepth 100000 in
theorem cn_X5_clear {h : ax_H} {n : Nat} {B : Nat} {sp : Nat → Int32} {pi : Nat → Nat} {pp : Nat → Nat → Int32} {w : Int32} {nw : Nat → Int32} {bz hd dw : Int32}  : ax_C yX5_clear cX5_clear 1 none 0 0 0 [.ref B] (stU h B sp pi pp w nw bz hd dw) n (kv (stU h B (z3 sp) pi pp (0) nw (0) (0) dw) n) := by
  refine ax_C.go RX5 "clear" [some (.ref B)] rfl rfl pn_X5 (lb rfl) rfl (fun l G cy bs => ?_)
  refine al0 dX5_clear_0 ?_
  refine g_X5_9 dX5_clear_1 su_0 ?_
  refine xt_iconst (0) dX5_clear_4 rfl ?_
  refine xt_iconst (0) dX5_clear_5 rfl ?_
  refine xt_iast (0) su_1 (by omega) rfl (by decide) dX5_clear_6 ?_
  refine xt_heq su_q1 ?_
  refine al0 dX5_clear_7 ?_
  refine g_X5_9 dX5_clear_8 su_0 ?_
  refine xt_iconst (1) dX5_clear_11 rfl ?_
  refine xt_iconst (0) dX5_clear_12 rfl ?_
  refine xt_iast (1) su_1 (by omega) rfl (by decide) dX5_clear_13 ?_
  refine xt_heq su_q1 ?_
  refine al0 dX5_clear_14 ?_
  refine g_X5_9 dX5_clear_15 su_0 ?_
  refine xt_iconst (2) dX5_clear_18 rfl ?_
  refine xt_iconst (0) dX5_clear_19 rfl ?_
  refine xt_iast (2) su_1 (by omega) rfl (by decide) dX5_clear_20 ?_
  refine xt_heq su_q1 ?_
  refine al0 dX5_clear_21 ?_
  refine xt_iconst (0) dX5_clear_22 rfl ?_
  refine p_X5_21 dX5_clear_23 su_0 ?_
  refine xt_heq su_q0 ?_
  refine al0 dX5_clear_26 ?_
  refine xt_iconst (0) dX5_clear_27 rfl ?_
  refine p_X5_30 dX5_clear_28 (Or.inl rfl) su_0 ?_
  refine xt_heq su_q0 ?_
  refine al0 dX5_clear_31 ?_
  refine xt_iconst (0) dX5_clear_32 rfl ?_
  refine p_X5_34 dX5_clear_33 (Or.inl rfl) su_0 ?_
  refine xt_heq su_q0 ?_
  exact xt_ret dX5_clear_36 rfl (lb rfl) (lb rfl) ⟨rfl, rfl, rfl⟩
def kdQ (pi : Nat → Nat) (pp : Nat → Nat → Int32) : Nat → Int32
  | 0 => 0
  | k + 1 => kdQ pi pp k ||| ((1 : Int32) <<< (pp (pi k) 0 &&& 31))
def rmQ (pi : Nat → Nat) (pp : Nat → Nat → Int32) (s0 : Int32) : Nat → Int32
  | 0 => s0
  | k + 1 => rmQ pi pp s0 k + remQ (pp (pi k))
set_option maxHeartbeats 400000 in
set_option maxRecDepth 100000 in
theorem cn_X5_kinds {h : ax_H} {n : Nat} {B : Nat} {sp : Nat → Int32} {pi : Nat → Nat} {pp : Nat → Nat → Int32} {nw : Nat → Int32} {bz hd dw : Int32} (m : Nat) (hm : m ≤ 12) (hpi : ∀ k, k < 12 → pi k < 12) : ax_C yX5_kinds cX5_kinds 3 (some .int) 0 0 0 [.ref B] (stU h B sp pi pp (nI m) nw bz hd dw) n (ki (kdQ pi pp m) (stU h B sp pi pp (nI m) nw bz hd dw) n) := by
  refine ax_C.go RX5 "kinds" [some (.ref B), none, none] rfl rfl pn_X5 (lb rfl) rfl (fun l G cy bs => ?_)
  have lp : ∀ (j k : Nat), k + j = m → ax_T l G cy bs (ax_rm 0 0 0) RX5 "kinds" cX5_kinds 3 (some .int) (ki (kdQ pi pp m) (stU h B sp pi pp (nI m) nw bz hd dw) n) 0 0 4 [some (.ref B), some (.int (kdQ pi pp (k))), some (.int (nI (k)))] [] (stU h B sp pi pp (nI m) nw bz hd dw) n 0 0 := by
    intro j
    induction j with
    | zero =>
      intro k hk
      obtain rfl : k = m := by omega
      refine il2 dX5_kinds_4 ?_
      refine al0 dX5_kinds_5 ?_
      refine g_X5_21 dX5_kinds_6 su_0 ?_
      refine xt_icmp_ge 32 dX5_kinds_9 rfl (fun _ => ?_) (fun q => absurd (nI_le (Nat.le_refl _) (by omega)) q)
      refine il1 dX5_kinds_32 ?_
      exact xt_iret dX5_kinds_33 rfl (lb rfl) (lb rfl) ⟨rfl, rfl, rfl⟩
    | succ j ih =>
      intro k hk
      have hpk := hpi k (by omega)
      refine il2 dX5_kinds_4 ?_
      refine al0 dX5_kinds_5 ?_
      refine g_X5_21 dX5_kinds_6 su_0 ?_
      refine xt_icmp_ge 32 dX5_kinds_9 rfl (fun q => absurd q (nI_ge (by omega) (by omega))) (fun _ => ?_)
      refine il1 dX5_kinds_12 ?_
      refine xt_iconst (1) dX5_kinds_13 rfl ?_
      refine al0 dX5_kinds_14 ?_
      refine g_X5_17 dX5_kinds_15 su_0 ?_
      refine il2 dX5_kinds_18 ?_
      refine xt_aald3 (k) su_2 (by omega) rfl (by decide) rfl dX5_kinds_19 ?_
      refine g_X5_54 dX5_kinds_20 (su_p (i := pi (k)) (by omega)) ?_
      refine xt_ishl dX5_kinds_23 ?_
      refine xt_ior dX5_kinds_24 ?_
      refine is1 dX5_kinds_25 (by decide) rfl ?_
      refine inc2 (nI (k + 1)) dX5_kinds_26 (nI_1 _) (by decide) rfl ?_
      refine xt_goto 4 dX5_kinds_29 rfl ?_
      exact ih (k + 1) (by omega)
  refine xt_iconst (0) dX5_kinds_0 rfl ?_
  refine is1 dX5_kinds_1 (by decide) rfl ?_
  refine xt_iconst (0) dX5_kinds_2 rfl ?_
  refine is2 dX5_kinds_3 (by decide) rfl ?_
  exact lp m 0 (by omega)
set_option maxHeartbeats 400000 in
set_option maxRecDepth 100000 in
theorem cn_X5_remaining {h : ax_H} {n : Nat} {B : Nat} {sp : Nat → Int32} {pi : Nat → Nat} {pp : Nat → Nat → Int32} {nw : Nat → Int32} {bz hd dw : Int32} (m : Nat) (hm : m ≤ 12) (hpi : ∀ k, k < 12 → pi k < 12) : ax_C yX5_remaining cX5_remaining 3 (some .int) 3 0 0 [.ref B] (stU h B sp pi pp (nI m) nw bz hd dw) n (ki (rmQ pi pp (if bz = 0 then 0 else remQ nw) m) (stU h B sp pi pp (nI m) nw bz hd dw) n) := by
  refine ax_C.go RX5 "remaining" [some (.ref B), none, none] rfl rfl pn_X5 (lb rfl) rfl (fun l G cy bs => ?_)
  have lp : ∀ (j k : Nat), k + j = m → ax_T l G cy bs (ax_rm 3 0 0) RX5 "remaining" cX5_remaining 3 (some .int) (ki (rmQ pi pp (if bz = 0 then 0 else remQ nw) m) (stU h B sp pi pp (nI m) nw bz hd dw) n) 0 0 21 [some (.ref B), some (.int (rmQ pi pp (if bz = 0 then 0 else remQ nw) (k))), some (.int (nI (k)))] [] (stU h B sp pi pp (nI m) nw bz hd dw) n 0 0 := by
    intro j
    induction j with
    | zero =>
      intro k hk
      obtain rfl : k = m := by omega
      refine il2 dX5_remaining_21 ?_
      refine al0 dX5_remaining_22 ?_
      refine g_X5_21 dX5_remaining_23 su_0 ?_
      refine xt_icmp_ge 47 dX5_remaining_26 rfl (fun _ => ?_) (fun q => absurd (nI_le (Nat.le_refl _) (by omega)) q)
      refine il1 dX5_remaining_47 ?_
      exact xt_iret dX5_remaining_48 rfl (lb rfl) (lb rfl) ⟨rfl, rfl, rfl⟩
    | succ j ih =>
      intro k hk
      have hpk := hpi k (by omega)
      refine il2 dX5_remaining_21 ?_
      refine al0 dX5_remaining_22 ?_
      refine g_X5_21 dX5_remaining_23 su_0 ?_
      refine xt_icmp_ge 47 dX5_remaining_26 rfl (fun q => absurd q (nI_ge (by omega) (by omega))) (fun _ => ?_)
      refine il1 dX5_remaining_29 ?_
      refine al0 dX5_remaining_30 ?_
      refine g_X5_17 dX5_remaining_31 su_0 ?_
      refine il2 dX5_remaining_34 ?_
      refine xt_aald3 (k) su_2 (by omega) rfl (by decide) rfl dX5_remaining_35 ?_
      refine s_X5_61 dX5_remaining_36 (cn_X2_remaining (su_p (i := pi (k)) (by omega))) (su_p (i := pi (k)) (by omega)) ⟨lb rfl, lb rfl, lb rfl, lb rfl⟩ ?_
      refine xt_iadd dX5_remaining_39 ?_
      refine is1 dX5_remaining_40 (by decide) rfl ?_
      refine inc2 (nI (k + 1)) dX5_remaining_41 (nI_1 _) (by decide) rfl ?_
      refine xt_goto 21 dX5_remaining_44 rfl ?_
      exact ih (k + 1) (by omega)
  refine al0 dX5_remaining_0 ?_
  refine g_X5_30 dX5_remaining_1 su_0 ?_
  apply xj_if_eq 17 dX5_remaining_4 rfl
  · intro k4
    refine ⟨fun c4 => ?_, fun c4 => ?_⟩
    · refine xt_iconst (0) dX5_remaining_17 rfl ?_
      exact xt_it1 k4 c4
    · refine al0 dX5_remaining_7 ?_
      refine g_X5_26 dX5_remaining_8 su_0 ?_
      refine s_X5_61 dX5_remaining_11 (cn_X2_remaining su_3) su_3 ⟨lb rfl, lb rfl, lb rfl, lb rfl⟩ ?_
      refine xt_goto 18 dX5_remaining_14 rfl ?_
      exact xt_it2 k4 c4
  · skip
    refine is1 dX5_remaining_18 (by decide) rfl ?_
    refine xt_iconst (0) dX5_remaining_19 rfl ?_
    refine is2 dX5_remaining_20 (by decide) rfl ?_
    exact lp m 0 (by omega)
set_option maxHeartbeats 400000 in
set_option maxRecDepth 100000 in
theorem cn_X5_addLast {h : ax_H} {n : Nat} {B : Nat} {sp : Nat → Int32} {pi : Nat → Nat} {pp : Nat → Nat → Int32} {nw : Nat → Int32} {bz hd dw : Int32} (m : Nat) (hm : m < 12) (hpi : ∀ k, k < 12 → pi k < 12) (k a b c : Int32) : ax_C yX5_addLast cX5_addLast 5 none 2 0 0 [.ref B, .int k, .int a, .int b, .int c] (stU h B sp pi pp (nI m) nw bz hd dw) n (kv (stU h B sp pi (va_up pp (pi m) (tl k a b c)) (nI (m + 1)) nw bz hd dw) n) := by
  have hpm := hpi m (by omega)
  refine ax_C.go RX5 "addLast" [some (.ref B), some (.int k), some (.int a), some (.int b), some (.int c)] rfl rfl pn_X5 (lb rfl) rfl (fun l G cy bs => ?_)
  refine al0 dX5_addLast_0 ?_
  refine g_X5_21 dX5_addLast_1 su_0 ?_
  refine xt_bipush (12) dX5_addLast_4 rfl ?_
  refine xt_icmp_ge 36 dX5_addLast_6 rfl (fun q => absurd q (nI_ge (a := m) (b := 12) (by omega) (by decide))) (fun _ => ?_)
  refine al0 dX5_addLast_9 ?_
  refine g_X5_17 dX5_addLast_10 su_0 ?_
  refine al0 dX5_addLast_13 ?_
  refine g_X5_21 dX5_addLast_14 su_0 ?_
  refine xt_aald3 (m) su_2 (by omega) rfl (by decide) rfl dX5_addLast_17 ?_
  refine il1 dX5_addLast_18 ?_
  refine il2 dX5_addLast_19 ?_
  refine il3 dX5_addLast_20 ?_
  refine il4 dX5_addLast_21 ?_
  refine s_X5_50 dX5_addLast_23 (cn_X2_tell (su_p (i := pi (m)) (by omega)) _ _ _ _) (su_p (i := pi (m)) (by omega)) ⟨lb rfl, lb rfl, lb rfl, lb rfl⟩ ?_
  refine xt_heq (su_qp (i := pi (m)) (by omega)) ?_
  refine al0 dX5_addLast_26 ?_
  refine xt_dup dX5_addLast_27 rfl ?_
  refine g_X5_21 dX5_addLast_28 su_0 ?_
  refine xt_iconst (1) dX5_addLast_31 rfl ?_
  refine xt_iadd dX5_addLast_32 ?_
  refine xt_eqv (nI (m + 1)) (nI_1 _) ?_
  refine p_X5_21 dX5_addLast_33 su_0 ?_
  refine xt_heq su_q0 ?_
  exact xt_ret dX5_addLast_36 rfl (lb rfl) (lb rfl) ⟨rfl, rfl, rfl⟩
def upP (pi : Nat → Nat) (m : Nat) : Nat → Nat → Nat
  | 0 => pi
  | d + 1 => va_up (upP pi m d) (m - d) (upP pi m d (m - d - 1))
theorem upP_s (pi : Nat → Nat) (m d : Nat) : upP pi m (d + 1) = va_up (upP pi m d) (m - d) (upP pi m d (m - d - 1)) := rfl
theorem upP_eq (pi : Nat → Nat) (m : Nat) : ∀ d, d ≤ m → ∀ j, upP pi m d j = if m - d < j ∧ j ≤ m then pi (j - 1) else pi j
  | 0, _, j => by rw [if_neg (by omega)]; rfl
  | d + 1, hd, j => by
    rw [upP_s, va_up]
    by_cases hj : j = m - d
    · subst hj
      rw [if_pos rfl, if_pos (by omega), upP_eq pi m d (by omega), if_neg (by omega)]
    · rw [if_neg hj, upP_eq pi m d (by omega)]
      by_cases h2 : m - d < j ∧ j ≤ m
      · rw [if_pos h2, if_pos (by omega)]
      · rw [if_neg h2, if_neg (by omega)]
theorem upP_lt {pi : Nat → Nat} (hpi : ∀ k, k < 12 → pi k < 12) {m d : Nat} (hd : d ≤ m) (hm : m < 12) : ∀ k, k < 12 → upP pi m d k < 12 := by
  intro k hk
  rw [upP_eq pi m d hd]
  split
  · exact hpi _ (by omega)
  · exact hpi _ hk
set_option maxHeartbeats 400000 in
set_option maxRecDepth 100000 in
theorem cn_X5_addFirst {h : ax_H} {n : Nat} {B : Nat} {sp : Nat → Int32} {pi : Nat → Nat} {pp : Nat → Nat → Int32} {nw : Nat → Int32} {bz hd dw : Int32} (m : Nat) (hm : m < 12) (hpi : ∀ k, k < 12 → pi k < 12) (k a b c : Int32) : ax_C yX5_addFirst cX5_addFirst 7 none 2 0 0 [.ref B, .int k, .int a, .int b, .int c] (stU h B sp pi pp (nI m) nw bz hd dw) n (kv (stU h B sp (va_up (upP pi m m) 0 (pi m)) (va_up pp (pi m) (tl k a b c)) (nI (m + 1)) nw bz hd dw) n) := by
  refine ax_C.go RX5 "addFirst" [some (.ref B), some (.int k), some (.int a), some (.int b), some (.int c), none, none] rfl rfl pn_X5 (lb rfl) rfl (fun l G cy bs => ?_)
  have hpm := hpi m (by omega)
  have lp : ∀ (i d : Nat), d + i = m → ∀ p1 : Nat → Nat, p1 = upP pi m d → ax_T l G cy bs (ax_rm 2 0 0) RX5 "addFirst" cX5_addFirst 7 none (kv (stU h B sp (va_up (upP pi m m) 0 (pi m)) (va_up pp (pi m) (tl k a b c)) (nI (m + 1)) nw bz hd dw) n) 0 0 27 [some (.ref B), some (.int k), some (.int a), some (.int b), some (.int c), some (.ref (B + 4 + pi m)), some (.int (nI i))] [] (stU h B sp (p1) pp (nI m) nw bz hd dw) n 0 0 := by
    intro i
    induction i with
    | zero =>
      intro d hd p1 hp1
      obtain rfl : d = m := by omega
      subst hp1
      refine il6 dX5_addFirst_27 ?_
      refine xt_if_le 54 dX5_addFirst_29 rfl (fun _ => ?_) (fun q => absurd (by decide) q)
      refine al0 dX5_addFirst_54 ?_
      refine g_X5_17 dX5_addFirst_55 su_0 ?_
      refine xt_iconst (0) dX5_addFirst_58 rfl ?_
      refine al5 dX5_addFirst_59 ?_
      refine xt_aast3 (0) su_2 (by omega) rfl (by decide) (su_p (i := pi d) (by omega)) dX5_addFirst_61 ?_
      refine xt_heq su_q2 ?_
      refine al5 dX5_addFirst_62 ?_
      refine il1 dX5_addFirst_64 ?_
      refine il2 dX5_addFirst_65 ?_
      refine il3 dX5_addFirst_66 ?_
      refine il4 dX5_addFirst_67 ?_
      refine s_X5_50 dX5_addFirst_69 (cn_X2_tell (su_p (i := pi d) (by omega)) _ _ _ _) (su_p (i := pi d) (by omega)) ⟨lb rfl, lb rfl, lb rfl, lb rfl⟩ ?_
      refine xt_heq (su_qp (i := pi d) (by omega)) ?_
      refine al0 dX5_addFirst_72 ?_
      refine xt_dup dX5_addFirst_73 rfl ?_
      refine g_X5_21 dX5_addFirst_74 su_0 ?_
      refine xt_iconst (1) dX5_addFirst_77 rfl ?_
      refine xt_iadd dX5_addFirst_78 ?_
      refine xt_eqv (nI (d + 1)) (nI_1 _) ?_
      refine p_X5_21 dX5_addFirst_79 su_0 ?_
      refine xt_heq su_q0 ?_
      exact xt_ret dX5_addFirst_82 rfl (lb rfl) (lb rfl) ⟨rfl, rfl, rfl⟩
    | succ i ih =>
      intro d hd p1 hp1
      have hq : p1 i < 12 := by rw [hp1]; exact upP_lt hpi (by omega) hm i (by omega)
      refine il6 dX5_addFirst_27 ?_
      refine xt_if_le 54 dX5_addFirst_29 rfl (fun q => absurd q (nI_nle (by omega) (by omega))) (fun _ => ?_)
      refine al0 dX5_addFirst_32 ?_
      refine g_X5_17 dX5_addFirst_33 su_0 ?_
      refine il6 dX5_addFirst_36 ?_
      refine al0 dX5_addFirst_38 ?_
      refine g_X5_17 dX5_addFirst_39 su_0 ?_
      refine il6 dX5_addFirst_42 ?_
      refine xt_iconst (1) dX5_addFirst_44 rfl ?_
      refine xt_isub dX5_addFirst_45 ?_
      refine xt_eqv (nI (i)) (nI_pred _) ?_
      refine xt_aald3 (i) su_2 (by omega) rfl (by decide) rfl dX5_addFirst_46 ?_
      refine xt_aast3 (i + 1) su_2 (by omega) rfl (by decide) (su_p (i := p1 (i)) (by omega)) dX5_addFirst_47 ?_
      refine xt_heq su_q2 ?_
      refine inc6 (nI i) dX5_addFirst_48 (nI_dec _) (by decide) rfl ?_
      refine xt_goto 27 dX5_addFirst_51 rfl ?_
      exact ih (d + 1) (by omega) _ (by rw [upP_s, ← hp1, show m - d = i + 1 by omega, Nat.add_sub_cancel])
  refine al0 dX5_addFirst_0 ?_
  refine g_X5_21 dX5_addFirst_1 su_0 ?_
  refine xt_bipush (12) dX5_addFirst_4 rfl ?_
  refine xt_icmp_lt 10 dX5_addFirst_6 rfl (fun _ => ?_) (fun q => absurd (nI_lt (b := 12) (by omega) (by decide)) q)
  refine al0 dX5_addFirst_10 ?_
  refine g_X5_17 dX5_addFirst_11 su_0 ?_
  refine al0 dX5_addFirst_14 ?_
  refine g_X5_21 dX5_addFirst_15 su_0 ?_
  refine xt_aald3 (m) su_2 (by omega) rfl (by decide) rfl dX5_addFirst_18 ?_
  refine as5 dX5_addFirst_19 (by decide) rfl ?_
  refine al0 dX5_addFirst_21 ?_
  refine g_X5_21 dX5_addFirst_22 su_0 ?_
  refine is6 dX5_addFirst_25 (by decide) rfl ?_
  exact lp m 0 (by omega) _ rfl
def dnP (pi : Nat → Nat) (a : Nat) : Nat → Nat → Nat
  | 0 => pi
  | d + 1 => va_up (dnP pi a d) (a + d) (dnP pi a d (a + d + 1))
theorem dnP_s (pi : Nat → Nat) (a d : Nat) : dnP pi a (d + 1) = va_up (dnP pi a d) (a + d) (dnP pi a d (a + d + 1)) := rfl
theorem dnP_eq (pi : Nat → Nat) (a : Nat) : ∀ d j, dnP pi a d j = if a ≤ j ∧ j < a + d then pi (j + 1) else pi j
  | 0, j => by rw [if_neg (by omega)]; rfl
  | d + 1, j => by
    rw [dnP_s, va_up]
    by_cases hj : j = a + d
    · subst hj
      rw [if_pos rfl, if_pos (by omega), dnP_eq pi a d, if_neg (by omega)]
    · rw [if_neg hj, dnP_eq pi a d]
      by_cases h2 : a ≤ j ∧ j < a + d
      · rw [if_pos h2, if_pos (by omega)]
      · rw [if_neg h2, if_neg (by omega)]
def rmP (pi : Nat → Nat) (a m : Nat) : Nat → Nat := va_up (dnP pi a (m - 1 - a)) (m - 1) (pi a)
set_option maxHeartbeats 400000 in
set_option maxRecDepth 100000 in
theorem cn_X5_removeAt {h : ax_H} {n : Nat} {B : Nat} {sp : Nat → Int32} {pi : Nat → Nat} {pp : Nat → Nat → Int32} {nw : Nat → Int32} {bz hd dw : Int32} (m i : Nat) (hm : m ≤ 12) (hi : i < m) (hpi : ∀ k, k < 12 → pi k < 12) : ax_C yX5_removeAt cX5_removeAt 4 none 0 0 0 [.ref B, .int (nI i)] (stU h B sp pi pp (nI m) nw bz hd dw) n (kv (stU h B sp (rmP pi i m) pp (nI (m - 1)) nw bz hd dw) n) := by
  refine ax_C.go RX5 "removeAt" [some (.ref B), some (.int (nI i)), none, none] rfl rfl pn_X5 (lb rfl) rfl (fun l G cy bs => ?_)
  have hpq := hpi i (by omega)
  have lp : ∀ (e k : Nat), k + 1 + e = m → ∀ (d : Nat), i + d = k → ∀ p1 : Nat → Nat, p1 = dnP pi i d → ax_T l G cy bs (ax_rm 0 0 0) RX5 "removeAt" cX5_removeAt 4 none (kv (stU h B sp (rmP pi i m) pp (nI (m - 1)) nw bz hd dw) n) 0 0 22 [some (.ref B), some (.int (nI i)), some (.ref (B + 4 + pi i)), some (.int (nI k))] [] (stU h B sp (p1) pp (nI m) nw bz hd dw) n 0 0 := by
    intro e
    induction e with
    | zero =>
      intro k hk d hd p1 hp1
      refine il3 dX5_removeAt_22 ?_
      refine xt_iconst (1) dX5_removeAt_23 rfl ?_
      refine xt_iadd dX5_removeAt_24 ?_
      refine xt_eqv (nI (k + 1)) (nI_1 _) ?_
      refine al0 dX5_removeAt_25 ?_
      refine g_X5_21 dX5_removeAt_26 su_0 ?_
      refine xt_icmp_ge 52 dX5_removeAt_29 rfl (fun _ => ?_) (fun q => absurd (nI_le (by omega) (by omega)) q)
      refine al0 dX5_removeAt_52 ?_
      refine xt_dup dX5_removeAt_53 rfl ?_
      refine g_X5_21 dX5_removeAt_54 su_0 ?_
      refine xt_iconst (1) dX5_removeAt_57 rfl ?_
      refine xt_isub dX5_removeAt_58 ?_
      refine xt_eqv (nI (m - 1)) ((ne_sub (a := m) (b := 1) rfl rfl (by omega)).trans (congrArg nI (by omega))) ?_
      refine p_X5_21 dX5_removeAt_59 su_0 ?_
      refine xt_heq su_q0 ?_
      refine al0 dX5_removeAt_62 ?_
      refine g_X5_17 dX5_removeAt_63 su_0 ?_
      refine al0 dX5_removeAt_66 ?_
      refine g_X5_21 dX5_removeAt_67 su_0 ?_
      refine al2 dX5_removeAt_70 ?_
      refine xt_aast3 (m - 1) su_2 (by omega) rfl (by decide) (su_p (i := pi i) (by omega)) dX5_removeAt_71 ?_
      refine xt_heq su_q2 ?_
      exact xt_ret dX5_removeAt_72 rfl (lb rfl) (lb rfl) ⟨rfl, by unfold rmP; rw [hp1, show m - 1 - i = d by omega], rfl⟩
    | succ e ih =>
      intro k hk d hd p1 hp1
      have hq : p1 (k + 1) < 12 := by rw [hp1, dnP_eq]; split <;> exact hpi _ (by omega)
      refine il3 dX5_removeAt_22 ?_
      refine xt_iconst (1) dX5_removeAt_23 rfl ?_
      refine xt_iadd dX5_removeAt_24 ?_
      refine xt_eqv (nI (k + 1)) (nI_1 _) ?_
      refine al0 dX5_removeAt_25 ?_
      refine g_X5_21 dX5_removeAt_26 su_0 ?_
      refine xt_icmp_ge 52 dX5_removeAt_29 rfl (fun q => absurd q (nI_ge (by omega) (by omega))) (fun _ => ?_)
      refine al0 dX5_removeAt_32 ?_
      refine g_X5_17 dX5_removeAt_33 su_0 ?_
      refine il3 dX5_removeAt_36 ?_
      refine al0 dX5_removeAt_37 ?_
      refine g_X5_17 dX5_removeAt_38 su_0 ?_
      refine il3 dX5_removeAt_41 ?_
      refine xt_iconst (1) dX5_removeAt_42 rfl ?_
      refine xt_iadd dX5_removeAt_43 ?_
      refine xt_aald3 (k + 1) su_2 (by omega) (ne_add (a := k) (b := 1) rfl rfl) (by decide) rfl dX5_removeAt_44 ?_
      refine xt_aast3 (k) su_2 (by omega) rfl (by decide) (su_p (i := p1 (k + 1)) (by omega)) dX5_removeAt_45 ?_
      refine xt_heq su_q2 ?_
      refine inc3 (nI (k + 1)) dX5_removeAt_46 (nI_1 _) (by decide) rfl ?_
      refine xt_goto 22 dX5_removeAt_49 rfl ?_
      exact ih (k + 1) (by omega) (d + 1) (by omega) _ (by rw [dnP_s, ← hp1, hd])
  refine il1 dX5_removeAt_0 ?_
  refine xt_if_lt 12 dX5_removeAt_1 rfl (fun q => absurd q (nI_pos (by omega))) (fun _ => ?_)
  refine il1 dX5_removeAt_4 ?_
  refine al0 dX5_removeAt_5 ?_
  refine g_X5_21 dX5_removeAt_6 su_0 ?_
  refine xt_icmp_lt 13 dX5_removeAt_9 rfl (fun _ => ?_) (fun q => absurd (nI_lt (by omega) (by omega)) q)
  refine al0 dX5_removeAt_13 ?_
  refine g_X5_17 dX5_removeAt_14 su_0 ?_
  refine il1 dX5_removeAt_17 ?_
  refine xt_aald3 (i) su_2 (by omega) rfl (by decide) rfl dX5_removeAt_18 ?_
  refine as2 dX5_removeAt_19 (by decide) rfl ?_
  refine il1 dX5_removeAt_20 ?_
  refine is3 dX5_removeAt_21 (by decide) rfl ?_
  exact lp (m - 1 - i) i (by omega) 0 (by omega) _ rfl
