/-! the kept states of the class -/
def PV (N : Nat) (pi : Nat → Nat) : Prop := (∀ k, k < N → pi k < N) ∧ ∀ j k, j < N → k < N → pi j = pi k → j = k
abbrev kpF (b : Nat) (ka : Nat → Nat) : Nat → Option Nat := fun k => some (b + 2 + 16 * ka k)
theorem kp_up (b : Nat) (ka : Nat → Nat) (K i : Nat) : va_up (kpF b ka) K (some (b + 2 + 16 * i)) = kpF b (va_up ka K i) := by
  funext k
  by_cases hk : k = K <;> simp [va_up, kpF, hk]
abbrev ePa (b : Nat) (u : Int32) : ax_E := .inr (1, [.ref (b + 1), .int u])
def PA (h : ax_H) (b : Nat) (R : Nat → Nat → Int32) (u : Nat) : Prop := ∃ ka : Nat → Nat, h b = some (ePa b (nI u)) ∧ h (b + 1) = some (ax_R 5 6 (kpF b ka)) ∧ u ≤ 6 ∧ PV 6 ka ∧ (∀ i, i < 6 → SX h (b + 2 + 16 * i)) ∧ ∀ i, i < u → ∃ m, SR h (b + 2 + 16 * ka i) (R i) m
theorem PA.fr {h h2 : ax_H} {b u : Nat} {R : Nat → Nat → Int32} (hA : PA h b R u) (he : ∀ j, b ≤ j → j < b + 98 → h2 j = h j) : PA h2 b R u := by
  obtain ⟨ka, h0, h1, hu, hP, hX, hR⟩ := hA
  refine ⟨ka, by rw [he _ (by omega) (by omega)]; exact h0, by rw [he _ (by omega) (by omega)]; exact h1, hu, hP, fun i hi => (hX i hi).fr (fun j a c => he j (by omega) (by omega)), fun i hi => ?_⟩
  obtain ⟨m, q⟩ := hR i hi
  have := hP.1 i (by omega)
  exact ⟨m, q.fr (fun j a c => he j (by omega) (by omega))⟩
theorem PA_congr {h : ax_H} {b u : Nat} {R R2 : Nat → Nat → Int32} (hR : ∀ i, i < u → R2 i = R i) (hA : PA h b R u) : PA h b R2 u := by
  obtain ⟨ka, h0, h1, hu, hP, hX, hq⟩ := hA
  exact ⟨ka, h0, h1, hu, hP, hX, fun i hi => by rw [hR i hi]; exact hq i hi⟩
theorem PV_rm {ka : Nat → Nat} (h : PV 6 ka) : PV 6 (rmP ka 0 6) := by
  refine ⟨fun k hk => ?_, fun j k hj hk e => ?_⟩
  · rw [rmP_eq ka (by omega)]; split
    · exact h.1 _ (by omega)
    · split <;> exact h.1 _ (by omega)
  · rw [rmP_eq ka (by omega), rmP_eq ka (by omega)] at e
    have := h.2 _ _ (by split <;> (try split) <;> omega) (by split <;> (try split) <;> omega) e
    split at this <;> (try split at this) <;> (try split at this) <;> (try split at this) <;> omega
theorem SX.o {h : ax_H} {B : Nat} (hX : SX h B) : ∃ fs, h B = some (.inr (5, fs)) := by
  obtain ⟨_, _, _, _, _, _, _, _, q, -⟩ := hX; exact ⟨_, q.1⟩
theorem fin5 {h : ax_H} {b : Nat} {R : Nat → Nat → Int32} {ka k1 : Nat → Nat} {e : ax_E} (h0 : h b = some e) (hP : PV 6 ka) (hX : ∀ i, i < 6 → SX h (b + 2 + 16 * i)) (hR : ∀ i, i < 6 → ∃ m, SR h (b + 2 + 16 * ka i) (R i) m) (hk1 : k1 = dnP ka 0 5) : PA (hp (hp h (b + 1) (ax_R 5 6 (kpF b (va_up k1 5 (ka 0))))) b (ePa b 5)) b (fun i => R (i + 1)) 5 ∧ fr b 98 h (hp (hp h (b + 1) (ax_R 5 6 (kpF b (va_up k1 5 (ka 0))))) b (ePa b 5)) := by
  have e1 : va_up k1 5 (ka 0) = rmP ka 0 6 := by rw [hk1]; rfl
  rw [e1]
  have hn : ∀ j, b + 2 ≤ j → hp (hp h (b + 1) (ax_R 5 6 (kpF b (rmP ka 0 6)))) b (ePa b 5) j = h j := fun j hj => by rw [hp_n _ _ (by omega), hp_n _ _ (by omega)]
  refine ⟨⟨rmP ka 0 6, hp_s _ _ _, hp_nt (by omega) (hp_s _ _ _), by omega, PV_rm hP, fun i hi => (hX i hi).fr (fun j a c => hn j (by omega)), fun i hi => ?_⟩, fun j hj => ?_⟩
  · obtain ⟨m, q⟩ := hR (i + 1) (by omega)
    refine ⟨m, ?_⟩
    rw [rmP_eq ka (by omega), if_neg (by omega), if_pos (by omega)]
    exact q.fr (fun j a c => hn j (by omega))
  · rw [hp_n _ _ (by omega), hp_n _ _ (by omega)]
set_option maxHeartbeats 400000 in
set_option maxRecDepth 100000 in
theorem cr_X1_forgetOldest {h : ax_H} {n : Nat} {b : Nat} {R : Nat → Nat → Int32} (hA : PA h b R 6) : ax_C yX1_forgetOldest cX1_forgetOldest 3 none 0 0 0 [.ref b] h n (kP (fun h2 => PA h2 b (fun i => R (i + 1)) 5 ∧ fr b 98 h h2) n) := by
  refine ax_C.go RX1 "forgetOldest" [some (.ref b), none, none] rfl rfl pn_X1 (lb rfl) rfl (fun l G cy bs => ?_)
  obtain ⟨ka, h0, h1, hu, hP, hX, hR⟩ := hA
  have lp : ∀ (d k : Nat), k + d = 5 → ∀ k1 : Nat → Nat, k1 = dnP ka 0 k → ax_T l G cy bs (ax_rm 0 0 0) RX1 "forgetOldest" cX1_forgetOldest 3 none (kP (fun h2 => PA h2 b (fun i => R (i + 1)) 5 ∧ fr b 98 h h2) n) 0 0 9 [some (.ref b), some (.ref (b + 2 + 16 * ka 0)), some (.int (nI k))] [] (hp h (b + 1) (ax_R 5 6 (kpF b k1))) n 0 0 := by
    intro d
    induction d with
    | zero =>
      intro k hk k1 hk1
      obtain rfl : k = 5 := by omega
      have ha := hP.1 0 (by omega)
      refine il2 dX1_forgetOldest_9 ?_
      refine xt_iconst (1) dX1_forgetOldest_10 rfl ?_
      refine xt_iadd dX1_forgetOldest_11 ?_
      refine xt_bipush (6) dX1_forgetOldest_12 rfl ?_
      refine xt_icmp_ge 37 dX1_forgetOldest_14 rfl (fun _ => ?_) (fun q => absurd (by decide) q)
      refine al0 dX1_forgetOldest_37 ?_
      refine g_X1_11 dX1_forgetOldest_38 (hp_nt (by omega) h0) ?_
      refine xt_iconst (5) dX1_forgetOldest_41 rfl ?_
      refine al1 dX1_forgetOldest_42 ?_
      obtain ⟨fs, hfs⟩ := (hX (ka 0) (by omega)).o
      refine xt_aast5 (5) (hp_s _ _ _) (by omega) rfl (by decide) (hp_nt (by omega) hfs) dX1_forgetOldest_43 ?_
      refine xt_eq (hp_hp _ _ _ _) ?_
      rw [kp_up]
      refine al0 dX1_forgetOldest_44 ?_
      refine xt_iconst (5) dX1_forgetOldest_45 rfl ?_
      refine p_X1_17 dX1_forgetOldest_46 (hp_nt (by omega) h0) ?_
      exact xt_ret dX1_forgetOldest_49 rfl (lb rfl) (lb rfl) ⟨rfl, fin5 h0 hP hX hR hk1, rfl⟩
    | succ d ih =>
      intro k hk k1 hk1
      have ha : k1 (k + 1) < 6 := by rw [hk1, dnP_eq]; split <;> exact hP.1 _ (by omega)
      refine il2 dX1_forgetOldest_9 ?_
      refine xt_iconst (1) dX1_forgetOldest_10 rfl ?_
      refine xt_iadd dX1_forgetOldest_11 ?_
      refine xt_eqv (nI (k + 1)) (nI_1 _) ?_
      refine xt_bipush (6) dX1_forgetOldest_12 rfl ?_
      refine xt_icmp_ge 37 dX1_forgetOldest_14 rfl (fun q => absurd q (nI_ge (a := k + 1) (b := 6) (by omega) (by decide))) (fun _ => ?_)
      refine al0 dX1_forgetOldest_17 ?_
      refine g_X1_11 dX1_forgetOldest_18 (hp_nt (by omega) h0) ?_
      refine il2 dX1_forgetOldest_21 ?_
      refine al0 dX1_forgetOldest_22 ?_
      refine g_X1_11 dX1_forgetOldest_23 (hp_nt (by omega) h0) ?_
      refine il2 dX1_forgetOldest_26 ?_
      refine xt_iconst (1) dX1_forgetOldest_27 rfl ?_
      refine xt_iadd dX1_forgetOldest_28 ?_
      refine xt_aald5 (k + 1) (hp_s _ _ _) (by omega) (ne_add (a := k) (b := 1) rfl rfl) (by decide) rfl dX1_forgetOldest_29 ?_
      obtain ⟨fs, hfs⟩ := (hX (k1 (k + 1)) (by omega)).o
      refine xt_aast5 (k) (hp_s _ _ _) (by omega) rfl (by decide) (hp_nt (by omega) hfs) dX1_forgetOldest_30 ?_
      refine xt_eq (hp_hp _ _ _ _) ?_
      rw [kp_up]
      refine inc2 (nI (k + 1)) dX1_forgetOldest_31 (nI_1 _) (by decide) rfl ?_
      refine xt_goto 9 dX1_forgetOldest_34 rfl ?_
      exact ih (k + 1) (by omega) _ (by rw [dnP_s, ← hk1, Nat.zero_add])
  refine al0 dX1_forgetOldest_0 ?_
  refine g_X1_11 dX1_forgetOldest_1 h0 ?_
  refine xt_iconst (0) dX1_forgetOldest_4 rfl ?_
  refine xt_aald5 (0) h1 (by omega) rfl (by decide) rfl dX1_forgetOldest_5 ?_
  refine as1 dX1_forgetOldest_6 (by decide) rfl ?_
  refine xt_iconst (0) dX1_forgetOldest_7 rfl ?_
  refine is2 dX1_forgetOldest_8 (by decide) rfl ?_
  refine xt_heq (hp_id h h1).symm ?_
  exact lp 5 0 (by omega) _ rfl
def kpR (R : Nat → Nat → Int32) (u : Nat) (r : Nat → Int32) : Nat → Nat → Int32 := if u = 6 then va_up (fun i => R (i + 1)) 5 r else va_up R u r
theorem PA_put {h h2 : ax_H} {b u m : Nat} {R : Nat → Nat → Int32} {ka : Nat → Nat} {r : Nat → Int32} (hu : u < 6) (h0 : h b = some (ePa b (nI u))) (h1 : h (b + 1) = some (ax_R 5 6 (kpF b ka))) (hP : PV 6 ka) (hX : ∀ i, i < 6 → SX h (b + 2 + 16 * i)) (hR : ∀ i, i < u → ∃ m, SR h (b + 2 + 16 * ka i) (R i) m) (q1 : SR h2 (b + 2 + 16 * ka u) r m) (q2 : fr (b + 2 + 16 * ka u) 16 h h2) : PA (hp h2 b (ePa b (nI (u + 1)))) b (va_up R u r) (u + 1) ∧ fr b 98 h (hp h2 b (ePa b (nI (u + 1)))) := by
  have hk := hP.1 u hu
  have hn : ∀ j, j ≠ b → hp h2 b (ePa b (nI (u + 1))) j = h2 j := fun j hj => hp_n _ _ hj
  refine ⟨⟨ka, hp_s _ _ _, hp_nt (by omega) (by rw [q2 _ (by omega)]; exact h1), by omega, hP, fun i hi => ?_, fun i hi => ?_⟩, fun j hj => ?_⟩
  · by_cases e : i = ka u
    · subst e; exact q1.sx.fr (fun j a c => hn j (by omega))
    · refine ((hX i hi).fr (h2 := h2) (fun j a c => q2 j (by omega))).fr (fun j a c => hn j (by omega))
  · by_cases e : i = u
    · subst e; exact ⟨m, by rw [va_up, if_pos rfl]; exact q1.fr (fun j a c => hn j (by omega))⟩
    · obtain ⟨m2, q⟩ := hR i (by omega)
      have hki := hP.1 i (by omega)
      have hne : ka i ≠ ka u := fun x => e (hP.2 _ _ (by omega) (by omega) x)
      exact ⟨m2, by rw [va_up, if_neg e]; exact (q.fr (h2 := h2) (fun j a c => q2 j (by omega))).fr (fun j a c => hn j (by omega))⟩
  · rw [hn j (by omega)]; exact q2 j (by omega)
set_option maxHeartbeats 400000 in
set_option maxRecDepth 100000 in
theorem cr_X1_keep_s {h : ax_H} {n : Nat} {b B2 m : Nat} {R : Nat → Nat → Int32} {r : Nat → Int32} (u : Nat) (hu6 : u < 6) (hA : PA h b R u) (hS : SR h B2 r m) (hdj : B2 + 16 ≤ b ∨ b + 98 ≤ B2) : ax_C yX1_keep cX1_keep 2 none 2 0 0 [.ref b, .ref B2] h n (kP (fun h2 => PA h2 b (va_up R u r) (u + 1) ∧ fr b 98 h h2) n) := by
  refine ax_C.go RX1 "keep" [some (.ref b), some (.ref B2)] rfl rfl pn_X1 (lb rfl) rfl (fun l G cy bs => ?_)
  obtain ⟨ka, h0, h1, hu, hP, hX, hR⟩ := hA
  have hku := hP.1 u hu6
  obtain ⟨fs, hfs⟩ := (hX _ hku).o
  refine al0 dX1_keep_0 ?_
  refine g_X1_17 dX1_keep_1 h0 ?_
  refine xt_bipush (6) dX1_keep_4 rfl ?_
  refine xt_icmp_lt 13 dX1_keep_6 rfl (fun _ => ?_) (fun q => absurd (nI_lt (b := 6) hu6 (by decide)) q)
  refine al0 dX1_keep_13 ?_
  refine g_X1_11 dX1_keep_14 h0 ?_
  refine al0 dX1_keep_17 ?_
  refine g_X1_17 dX1_keep_18 h0 ?_
  refine xt_aald5 (u) h1 (by omega) rfl (by decide) rfl dX1_keep_21 ?_
  refine al1 dX1_keep_22 ?_
  refine sP_X1_25 dX1_keep_23 (cr_X5_copyFrom (hX _ hku) hS (by omega)) hfs ⟨lb rfl, lb rfl, lb rfl, lb rfl⟩ ?_
  rintro h3 ⟨q1, q2⟩
  have h3b : h3 b = some (ePa b (nI u)) := by rw [q2 _ (by omega)]; exact h0
  refine al0 dX1_keep_26 ?_
  refine xt_dup dX1_keep_27 rfl ?_
  refine g_X1_17 dX1_keep_28 h3b ?_
  refine xt_iconst (1) dX1_keep_31 rfl ?_
  refine xt_iadd dX1_keep_32 ?_
  refine xt_eqv (nI (u + 1)) (nI_1 _) ?_
  refine p_X1_17 dX1_keep_33 h3b ?_
  exact xt_ret dX1_keep_36 rfl (lb rfl) (lb rfl) ⟨rfl, PA_put hu6 h0 h1 hP hX hR q1 q2, rfl⟩
set_option maxHeartbeats 400000 in
set_option maxRecDepth 100000 in
theorem cr_X1_keep_6 {h : ax_H} {n : Nat} {b B2 m : Nat} {R : Nat → Nat → Int32} {r : Nat → Int32} (hA : PA h b R 6) (hS : SR h B2 r m) (hdj : B2 + 16 ≤ b ∨ b + 98 ≤ B2) : ax_C yX1_keep cX1_keep 2 none 2 0 0 [.ref b, .ref B2] h n (kP (fun h2 => PA h2 b (va_up (fun i => R (i + 1)) 5 r) 6 ∧ fr b 98 h h2) n) := by
  refine ax_C.go RX1 "keep" [some (.ref b), some (.ref B2)] rfl rfl pn_X1 (lb rfl) rfl (fun l G cy bs => ?_)
  have hA0 := hA
  obtain ⟨_, h0, h1, -⟩ := hA0
  refine al0 dX1_keep_0 ?_
  refine g_X1_17 dX1_keep_1 h0 ?_
  refine xt_bipush (6) dX1_keep_4 rfl ?_
  refine xt_icmp_lt 13 dX1_keep_6 rfl (fun q => absurd q (by decide)) (fun _ => ?_)
  refine al0 dX1_keep_9 ?_
  refine sP_X1_22 dX1_keep_10 (cr_X1_forgetOldest hA) h0 ⟨lb rfl, lb rfl, lb rfl, lb rfl⟩ ?_
  rintro g ⟨hA2, hfr⟩
  obtain ⟨ka, h0, h1, hu, hP, hX, hR⟩ := hA2
  have hku := hP.1 5 (by omega)
  obtain ⟨fs, hfs⟩ := (hX _ hku).o
  have hS2 : SR g B2 r m := hS.fr (fun j a c => hfr j (by omega))
  refine al0 dX1_keep_13 ?_
  refine g_X1_11 dX1_keep_14 h0 ?_
  refine al0 dX1_keep_17 ?_
  refine g_X1_17 dX1_keep_18 h0 ?_
  refine xt_aald5 (5) h1 (by omega) rfl (by decide) rfl dX1_keep_21 ?_
  refine al1 dX1_keep_22 ?_
  refine sP_X1_25 dX1_keep_23 (cr_X5_copyFrom (hX _ hku) hS2 (by omega)) hfs ⟨lb rfl, lb rfl, lb rfl, lb rfl⟩ ?_
  rintro h3 ⟨q1, q2⟩
  have h3b : h3 b = some (ePa b (nI 5)) := by rw [q2 _ (by omega)]; exact h0
  refine al0 dX1_keep_26 ?_
  refine xt_dup dX1_keep_27 rfl ?_
  refine g_X1_17 dX1_keep_28 h3b ?_
  refine xt_iconst (1) dX1_keep_31 rfl ?_
  refine xt_iadd dX1_keep_32 ?_
  refine xt_eqv (nI (5 + 1)) (nI_1 _) ?_
  refine p_X1_17 dX1_keep_33 h3b ?_
  exact xt_ret dX1_keep_36 rfl (lb rfl) (lb rfl) ⟨rfl, ⟨(PA_put (by omega) h0 h1 hP hX hR q1 q2).1, fun j hj => ((PA_put (by omega) h0 h1 hP hX hR q1 q2).2 j hj).trans (hfr j hj)⟩, rfl⟩
theorem cr_X1_keep {h : ax_H} {n b B2 m u : Nat} {R : Nat → Nat → Int32} {r : Nat → Int32} (hA : PA h b R u) (hS : SR h B2 r m) (hdj : B2 + 16 ≤ b ∨ b + 98 ≤ B2) : ax_C yX1_keep cX1_keep 2 none 2 0 0 [.ref b, .ref B2] h n (kP (fun h2 => PA h2 b (kpR R u r) (mdU u) ∧ fr b 98 h h2) n) := by
  have hu : u ≤ 6 := by obtain ⟨_, _, _, q, -⟩ := hA; exact q
  unfold kpR mdU
  by_cases e : u = 6
  · subst e; simp only [if_true]; exact cr_X1_keep_6 hA hS hdj
  · simp only [if_neg e]; exact cr_X1_keep_s u (by omega) hA hS hdj
set_option maxHeartbeats 400000 in
set_option maxRecDepth 100000 in
theorem cr_X1_takeBack {h : ax_H} {n : Nat} {b B2 u : Nat} {R : Nat → Nat → Int32} (hA : PA h b R (u + 1)) (hX2 : SX h B2) (hdj : B2 + 16 ≤ b ∨ b + 98 ≤ B2) : ax_C yX1_takeBack cX1_takeBack 2 none 2 0 0 [.ref b, .ref B2] h n (kP (fun h2 => PA h2 b R u ∧ (∃ m, SR h2 B2 (R u) m) ∧ ∀ j, (j < b ∨ b + 98 ≤ j) → (j < B2 ∨ B2 + 16 ≤ j) → h2 j = h j) n) := by
  refine ax_C.go RX1 "takeBack" [some (.ref b), some (.ref B2)] rfl rfl pn_X1 (lb rfl) rfl (fun l G cy bs => ?_)
  obtain ⟨ka, h0, h1, hu, hP, hX, hR⟩ := hA
  have hku := hP.1 u (by omega)
  obtain ⟨fs, hfs⟩ := hX2.o
  obtain ⟨m, hS⟩ := hR u (by omega)
  refine al0 dX1_takeBack_0 ?_
  refine g_X1_17 dX1_takeBack_1 h0 ?_
  refine xt_if_le 30 dX1_takeBack_4 rfl (fun q => absurd q (nI_nle (by omega) (by omega))) (fun _ => ?_)
  refine al0 dX1_takeBack_7 ?_
  refine xt_dup dX1_takeBack_8 rfl ?_
  refine g_X1_17 dX1_takeBack_9 h0 ?_
  refine xt_iconst (1) dX1_takeBack_12 rfl ?_
  refine xt_isub dX1_takeBack_13 ?_
  refine xt_eqv (nI (u)) (nI_pred _) ?_
  refine p_X1_17 dX1_takeBack_14 h0 ?_
  refine al1 dX1_takeBack_17 ?_
  refine al0 dX1_takeBack_18 ?_
  refine g_X1_11 dX1_takeBack_19 (hp_s _ _ _) ?_
  refine al0 dX1_takeBack_22 ?_
  refine g_X1_17 dX1_takeBack_23 (hp_s _ _ _) ?_
  refine xt_aald5 (u) (hp_nt (by omega) h1) (by omega) rfl (by decide) rfl dX1_takeBack_26 ?_
  have g1 : ∀ j, j ≠ b → hp h b (ePa b (nI u)) j = h j := fun j hj => hp_n _ _ hj
  refine sP_X1_25 dX1_takeBack_27 (cr_X5_copyFrom (hX2.fr (fun j a c => g1 j (by omega))) (hS.fr (fun j a c => g1 j (by omega))) (by omega)) (hp_nt (by omega) hfs) ⟨lb rfl, lb rfl, lb rfl, lb rfl⟩ ?_
  rintro h3 ⟨q1, q2⟩
  exact xt_ret dX1_takeBack_30 rfl (lb rfl) (lb rfl) ⟨rfl, ⟨⟨ka, by rw [q2 _ (by omega)]; exact hp_s _ _ _, by rw [q2 _ (by omega), g1 _ (by omega)]; exact h1, by omega, hP, fun i hi => (hX i hi).fr (fun j a c => by rw [q2 _ (by omega), g1 _ (by omega)]), fun i hi => (by
      obtain ⟨m2, q⟩ := hR i (by omega)
      have := hP.1 i (by omega)
      exact ⟨m2, q.fr (fun j a c => by rw [q2 _ (by omega), g1 _ (by omega)])⟩)⟩, ⟨m, q1⟩, fun j a c => by rw [q2 _ (by omega), g1 _ (by omega)]⟩, rfl⟩
set_option maxHeartbeats 400000 in
set_option maxRecDepth 100000 in
theorem cr_X1_copyFrom {h : ax_H} {n : Nat} {b b2 u u2 : Nat} {R R2 : Nat → Nat → Int32} (hB : PA h b R2 u2) (hA : PA h b2 R u) (hdj : b2 + 98 ≤ b ∨ b + 98 ≤ b2) : ax_C yX1_copyFrom cX1_copyFrom 3 none 2 0 0 [.ref b, .ref b2] h n (kP (fun h2 => PA h2 b R u ∧ fr b 98 h h2) n) := by
  refine ax_C.go RX1 "copyFrom" [some (.ref b), some (.ref b2), none] rfl rfl pn_X1 (lb rfl) rfl (fun l G cy bs => ?_)
  obtain ⟨ka2, g0, g1, gu, gP, gX, -⟩ := hB
  obtain ⟨ka, h0, h1_, hu, hP, hX, hR⟩ := hA
  have lp : ∀ (d k : Nat), k + d = u → ∀ h1 : ax_H, fr b 98 h h1 → h1 b = some (ePa b (nI u2)) → h1 (b + 1) = some (ax_R 5 6 (kpF b ka2)) → (∀ i, i < 6 → SX h1 (b + 2 + 16 * i)) → (∀ i, i < k → ∃ m, SR h1 (b + 2 + 16 * ka2 i) (R i) m) → ax_T l G cy bs (ax_rm 2 0 0) RX1 "copyFrom" cX1_copyFrom 3 none (kP (fun h2 => PA h2 b R u ∧ fr b 98 h h2) n) 0 0 2 [some (.ref b), some (.ref b2), some (.int (nI k))] [] h1 n 0 0 := by
    intro d
    induction d with
    | zero =>
      intro k hk h1 f1 f2 f3 f4 f5
      obtain rfl : k = u := by omega
      have e0 : h1 b2 = some (ePa b2 (nI k)) := by rw [f1 _ (by omega)]; exact h0
      refine il2 dX1_copyFrom_2 ?_
      refine al1 dX1_copyFrom_3 ?_
      refine g_X1_17 dX1_copyFrom_4 e0 ?_
      refine xt_icmp_ge 31 dX1_copyFrom_7 rfl (fun _ => ?_) (fun q => absurd (nI_le (Nat.le_refl _) (by omega)) q)
      refine al0 dX1_copyFrom_31 ?_
      refine al1 dX1_copyFrom_32 ?_
      refine g_X1_17 dX1_copyFrom_33 e0 ?_
      refine p_X1_17 dX1_copyFrom_36 f2 ?_
      exact xt_ret dX1_copyFrom_39 rfl (lb rfl) (lb rfl) ⟨rfl, ⟨⟨ka2, hp_s _ _ _, hp_nt (by omega) f3, hu, gP, fun i hi => (f4 i hi).fr (fun j a c => hp_n _ _ (by omega)), fun i hi => (by
        obtain ⟨m2, q⟩ := f5 i hi
        have := gP.1 i (by omega)
        exact ⟨m2, q.fr (fun j a c => hp_n _ _ (by omega))⟩)⟩, fun j hj => by rw [hp_n _ _ (by omega)]; exact f1 j hj⟩, rfl⟩
    | succ d ih =>
      intro k hk h1 f1 f2 f3 f4 f5
      have e0 : h1 b2 = some (ePa b2 (nI u)) := by rw [f1 _ (by omega)]; exact h0
      have e1 : h1 (b2 + 1) = some (ax_R 5 6 (kpF b2 ka)) := by rw [f1 _ (by omega)]; exact h1_
      have q1 := gP.1 k (by omega)
      have q2 := hP.1 k (by omega)
      obtain ⟨m, hS⟩ := hR k (by omega)
      have hS2 : SR h1 (b2 + 2 + 16 * ka k) (R k) m := hS.fr (fun j a c => f1 j (by omega))
      obtain ⟨fs, hfs⟩ := (f4 _ q1).o
      refine il2 dX1_copyFrom_2 ?_
      refine al1 dX1_copyFrom_3 ?_
      refine g_X1_17 dX1_copyFrom_4 e0 ?_
      refine xt_icmp_ge 31 dX1_copyFrom_7 rfl (fun q => absurd q (nI_ge (by omega) (by omega))) (fun _ => ?_)
      refine al0 dX1_copyFrom_10 ?_
      refine g_X1_11 dX1_copyFrom_11 f2 ?_
      refine il2 dX1_copyFrom_14 ?_
      refine xt_aald5 (k) f3 (by omega) rfl (by decide) rfl dX1_copyFrom_15 ?_
      refine al1 dX1_copyFrom_16 ?_
      refine g_X1_11 dX1_copyFrom_17 e0 ?_
      refine il2 dX1_copyFrom_20 ?_
      refine xt_aald5 (k) e1 (by omega) rfl (by decide) rfl dX1_copyFrom_21 ?_
      refine sP_X1_25 dX1_copyFrom_22 (cr_X5_copyFrom (f4 _ q1) hS2 (by omega)) hfs ⟨lb rfl, lb rfl, lb rfl, lb rfl⟩ ?_
      rintro h3 ⟨z1, z2⟩
      refine inc2 (nI (k + 1)) dX1_copyFrom_25 (nI_1 _) (by decide) rfl ?_
      refine xt_goto 2 dX1_copyFrom_28 rfl ?_
      exact ih (k + 1) (by omega) h3 (fun j hj => (z2 j (by omega)).trans (f1 j hj)) (by rw [z2 _ (by omega)]; exact f2) (by rw [z2 _ (by omega)]; exact f3) (fun i hi => by
        by_cases e : i = ka2 k
        · subst e; exact z1.sx
        · exact (f4 i hi).fr (fun j a c => z2 j (by omega))) (fun i hi => by
        by_cases e : i = k
        · subst e; exact ⟨m, z1⟩
        · obtain ⟨m2, q⟩ := f5 i (by omega)
          have := gP.1 i (by omega)
          have hne : ka2 i ≠ ka2 k := fun x => e (gP.2 _ _ (by omega) (by omega) x)
          exact ⟨m2, q.fr (fun j a c => z2 j (by omega))⟩)
  refine xt_iconst (0) dX1_copyFrom_0 rfl ?_
  refine is2 dX1_copyFrom_1 (by decide) rfl ?_
  exact lp u 0 (by omega) h (fun _ _ => rfl) g0 g1 gX (fun i hi => absurd hi (by omega))
