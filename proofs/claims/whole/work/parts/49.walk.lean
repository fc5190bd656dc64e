/-! the walk of the class -/
abbrev eWk (wb B : Nat) (bz tk : Int32) : ax_E := .inr (6, [.ref B, .ref (wb + 1), .int bz, .int tk, .ref (wb + 2), .ref (wb + 3)])
def wkU (h : ax_H) (wb B : Nat) (q : Nat → Int32) (bz tk : Int32) (f g : Nat → Int32) : ax_H := fun j => if j = wb then some (eWk wb B bz tk) else if j = wb + 1 then some (ePc q) else if j = wb + 2 then some (ax_I 3 f) else if j = wb + 3 then some (ax_I 3 g) else h j
def WF (h : ax_H) (wb B : Nat) (q : Nat → Int32) (bz tk : Int32) (f g : Nat → Int32) : Prop := h wb = some (eWk wb B bz tk) ∧ h (wb + 1) = some (ePc q) ∧ h (wb + 2) = some (ax_I 3 f) ∧ h (wb + 3) = some (ax_I 3 g)
section WUS
variable {h : ax_H} {wb B : Nat} {q : Nat → Int32} {bz tk : Int32} {f g : Nat → Int32}
theorem wu_0 : (wkU h wb B q bz tk f g) wb = some (eWk wb B bz tk) := by simp [wkU]
theorem wu_1 : (wkU h wb B q bz tk f g) (wb + 1) = some (ePc q) := by simp [wkU]
theorem wu_2 : (wkU h wb B q bz tk f g) (wb + 2) = some (ax_I 3 f) := by simp [wkU]
theorem wu_3 : (wkU h wb B q bz tk f g) (wb + 3) = some (ax_I 3 g) := by simp [wkU]
theorem wu_n {j : Nat} (hj : j < wb ∨ wb + 4 ≤ j) : (wkU h wb B q bz tk f g) j = h j := by
  unfold wkU
  rw [if_neg (by omega), if_neg (by omega), if_neg (by omega), if_neg (by omega)]
theorem wu_o {j : Nat} {e : ax_E} (hj : j < wb ∨ wb + 4 ≤ j) (he : h j = some e) : (wkU h wb B q bz tk f g) j = some e := by rw [wu_n hj]; exact he
theorem wu_q0 {bz2 tk2 : Int32} : hp (wkU h wb B q bz tk f g) wb (eWk wb B bz2 tk2) = (wkU h wb B q (bz2) (tk2) f g) := by
  funext j
  by_cases h1 : j = wb
  · subst h1; simp [hp, wkU]
  · simp [hp, wkU, h1]
theorem wu_q1 {q2 : Nat → Int32} : hp (wkU h wb B q bz tk f g) (wb + 1) (ePc q2) = (wkU h wb B (q2) bz tk f g) := by
  funext j
  by_cases h1 : j = wb + 1
  · subst h1; simp [hp, wkU]
  · simp [hp, wkU, h1]
theorem wu_q2 {f2 : Nat → Int32} : hp (wkU h wb B q bz tk f g) (wb + 2) (ax_I 3 f2) = (wkU h wb B q bz tk (f2) g) := by
  funext j
  by_cases h1 : j = wb + 2
  · subst h1; simp [hp, wkU]
  · simp [hp, wkU, h1]
theorem wu_q3 {g2 : Nat → Int32} : hp (wkU h wb B q bz tk f g) (wb + 3) (ax_I 3 g2) = (wkU h wb B q bz tk f (g2)) := by
  funext j
  by_cases h1 : j = wb + 3
  · subst h1; simp [hp, wkU]
  · simp [hp, wkU, h1]
theorem WF_wu : WF (wkU h wb B q bz tk f g) wb B q bz tk f g := ⟨wu_0, wu_1, wu_2, wu_3⟩
theorem wu_id (hS : WF h wb B q bz tk f g) : (wkU h wb B q bz tk f g) = h := by
  obtain ⟨h0, h1, h2, h3⟩ := hS
  funext j
  unfold wkU
  by_cases q0 : j = wb
  · subst q0; rw [if_pos rfl, h0]
  · rw [if_neg q0]
    by_cases q1 : j = wb + 1
    · subst q1; rw [if_pos rfl, h1]
    · rw [if_neg q1]
      by_cases q2 : j = wb + 2
      · subst q2; rw [if_pos rfl, h2]
      · rw [if_neg q2]
        by_cases q3 : j = wb + 3
        · subst q3; rw [if_pos rfl, h3]
        · rw [if_neg q3]
theorem WF.fr {h2 : ax_H} (hS : WF h wb B q bz tk f g) (he : ∀ j, wb ≤ j → j < wb + 4 → h2 j = h j) : WF h2 wb B q bz tk f g := by
  obtain ⟨h0, h1, h2', h3⟩ := hS
  exact ⟨by rw [he _ (by omega) (by omega)]; exact h0, by rw [he _ (by omega) (by omega)]; exact h1, by rw [he _ (by omega) (by omega)]; exact h2', by rw [he _ (by omega) (by omega)]; exact h3⟩
theorem fr_wu : fr wb 4 h (wkU h wb B q bz tk f g) := fun _ hj => wu_n hj
end WUS
def WX (h : ax_H) (wb B : Nat) : Prop := ∃ q bz tk f g, WF h wb B q bz tk f g ∧ (bz = 0 ∨ bz = 1)
theorem WX.fr {h h2 : ax_H} {wb B : Nat} (hS : WX h wb B) (he : ∀ j, wb ≤ j → j < wb + 4 → h2 j = h j) : WX h2 wb B := by
  obtain ⟨q, bz, tk, f, g, h1, h2⟩ := hS
  exact ⟨q, bz, tk, f, g, h1.fr he, h2⟩
/-- the rows: r is what the walk stands at, behind t that were taken of r0's -/
def RR (r0 : Nat → Int32) (m0 : Nat) (r : Nat → Int32) (t : Nat) : Prop := t ≤ m0 ∧ RI r (m0 - t) ∧ r 3 = r0 3 ∧ r 4 = r0 4 ∧ ∀ j, 13 ≤ j → j < 13 + 4 * (m0 - t) → r j = r0 (j + 4 * t)
def WR (h : ax_H) (wb B : Nat) (r0 : Nat → Int32) (m0 : Nat) (r : Nat → Int32) (t : Nat) (f g : Nat → Int32) : Prop := ∃ q bz, WF h wb B q bz (nI t) f g ∧ SR h B r0 m0 ∧ (∀ j, j < 3 → f j = r j) ∧ NB q bz r ∧ RR r0 m0 r t
theorem WR.wx {h : ax_H} {wb B m0 t : Nat} {r0 r f g : Nat → Int32} (hW : WR h wb B r0 m0 r t f g) : WX h wb B := by
  obtain ⟨q, bz, h1, -, -, h2, -⟩ := hW
  exact ⟨q, bz, _, f, g, h1, h2.b⟩
theorem WR.fr {h h2 : ax_H} {wb B m0 t : Nat} {r0 r f g : Nat → Int32} (hW : WR h wb B r0 m0 r t f g) (he : ∀ j, wb ≤ j → j < wb + 4 → h2 j = h j) (he2 : ∀ j, B ≤ j → j < B + 16 → h2 j = h j) : WR h2 wb B r0 m0 r t f g := by
  obtain ⟨q, bz, h1, h3, h4⟩ := hW
  exact ⟨q, bz, h1.fr he, h3.fr he2, h4⟩
set_option maxHeartbeats 400000 in
set_option maxRecDepth 100000 in
theorem cn_X6_begin {h : ax_H} {n : Nat} {wb B : Nat} {q : Nat → Int32} {bz tk : Int32} {f g : Nat → Int32} {sp : Nat → Int32} {pi : Nat → Nat} {pp : Nat → Nat → Int32} {nw : Nat → Int32} {sb hd dw : Int32} {w0 : Int32} (k1 : SF h B sp pi pp w0 nw sb hd dw) (hbz : bz = 0 ∨ bz = 1) (hsb : sb = 0 ∨ sb = 1) (hsh : hd = 0 ∨ hd = 1) (hdj : B + 16 ≤ wb ∨ wb + 4 ≤ B) : ax_C yX6_begin cX6_begin 1 none 1 0 0 [.ref wb] (wkU h wb B q bz tk f g) n (kv (wkU h wb B (nw) (sb) (0) (va_cpy sp f 0 0 3) g) n) := by
  refine ax_C.go RX6 "begin" [some (.ref wb)] rfl rfl pn_X6 (lb rfl) rfl (fun l G cy bs => ?_)
  refine al0 dX6_begin_0 ?_
  refine g_X6_12 dX6_begin_1 wu_0 ?_
  refine al0 dX6_begin_4 ?_
  refine g_X6_33 dX6_begin_5 wu_0 ?_
  refine g_X6_37 dX6_begin_8 (wu_o (by omega) k1.1) ?_
  refine s_X6_40 dX6_begin_11 (cn_X2_copyFrom wu_1 (wu_o (by omega) k1.2.2.2.1) (by omega)) wu_1 ⟨lb rfl, lb rfl, lb rfl, lb rfl⟩ ?_
  refine xt_heq wu_q1 ?_
  refine al0 dX6_begin_14 ?_
  refine al0 dX6_begin_15 ?_
  refine g_X6_33 dX6_begin_16 wu_0 ?_
  refine g_X6_44 dX6_begin_19 (wu_o (by omega) k1.1) ?_
  refine p_X6_18 dX6_begin_22 hsb wu_0 ?_
  refine xt_heq wu_q0 ?_
  refine al0 dX6_begin_25 ?_
  refine xt_iconst (0) dX6_begin_26 rfl ?_
  refine p_X6_22 dX6_begin_27 wu_0 ?_
  refine xt_heq wu_q0 ?_
  refine al0 dX6_begin_30 ?_
  refine g_X6_33 dX6_begin_31 wu_0 ?_
  refine g_X6_45 dX6_begin_34 (wu_o (by omega) k1.1) ?_
  refine xt_iconst (0) dX6_begin_37 rfl ?_
  refine al0 dX6_begin_38 ?_
  refine g_X6_26 dX6_begin_39 wu_0 ?_
  refine xt_iconst (0) dX6_begin_42 rfl ?_
  refine xt_iconst (3) dX6_begin_43 rfl ?_
  refine s_X6_46i (0) (0) (3) dX6_begin_44 (wu_o (by omega) k1.2.1) wu_2 rfl rfl rfl (by omega) (by omega) ⟨by decide, by decide⟩ ⟨lb rfl, lb rfl⟩ ?_
  refine xt_heq wu_q2 ?_
  exact xt_ret dX6_begin_47 rfl (lb rfl) (lb rfl) ⟨rfl, rfl, rfl⟩
theorem cr_X6_begin {h : ax_H} {n wb B m0 : Nat} {r0 : Nat → Int32} (hW : WX h wb B) (hS : SR h B r0 m0) (hdj : B + 16 ≤ wb ∨ wb + 4 ≤ B) : ax_C yX6_begin cX6_begin 1 none 1 0 0 [.ref wb] h n (kP (fun h2 => (∃ f g, WR h2 wb B r0 m0 r0 0 f g) ∧ fr wb 4 h h2) n) := by
  obtain ⟨q, bz, tk, f, g, h1, h2⟩ := hW
  have hS0 := hS
  obtain ⟨sp, pi, pp, nw, sb, hd, dw, k1, k2, ⟨s1, s2, s3, s4, s5, s6⟩, k4⟩ := hS
  refine ((cn_X6_begin k1 h2 s5.b s6 hdj).heq (wu_id h1).symm).wk ?_
  rintro v h' n' ⟨rfl, rfl, rfl⟩
  refine ⟨rfl, ⟨⟨_, _, nw, sb, WF_wu, hS0.fr (fun j a b => wu_n (by omega)), fun j hj => by rw [va_cpy3 _ _ hj]; exact s1 j hj, s5, by omega, k4, rfl, rfl, fun j _ _ => rfl⟩, fr_wu⟩, rfl⟩
set_option maxHeartbeats 400000 in
set_option maxRecDepth 100000 in
theorem cn_X6_takeNext_n {h : ax_H} {n : Nat} {wb B m0 : Nat} {q : Nat → Int32} {bz : Int32} {f g : Nat → Int32} {sp : Nat → Int32} {pi : Nat → Nat} {pp : Nat → Nat → Int32} {nw : Nat → Int32} {sb hd dw : Int32} (k1 : SF h B sp pi pp (nI m0) nw sb hd dw) (hbz : bz = 0 ∨ bz = 1) (hsb : sb = 0 ∨ sb = 1) (hsh : hd = 0 ∨ hd = 1) (hdj : B + 16 ≤ wb ∨ wb + 4 ≤ B) (hm0 : m0 ≤ 12) : ax_C yX6_takeNext cX6_takeNext 1 (some .boolean) 1 0 0 [.ref wb] (wkU h wb B q bz (nI m0) f g) n (ki 0 (wkU h wb B q bz (nI m0) f g) n) := by
  refine ax_C.go RX6 "takeNext" [some (.ref wb)] rfl rfl pn_X6 (lb rfl) rfl (fun l G cy bs => ?_)
  refine al0 dX6_takeNext_0 ?_
  refine g_X6_22 dX6_takeNext_1 wu_0 ?_
  refine al0 dX6_takeNext_4 ?_
  refine g_X6_33 dX6_takeNext_5 wu_0 ?_
  refine g_X6_72 dX6_takeNext_8 (wu_o (by omega) k1.1) ?_
  refine xt_icmp_lt 16 dX6_takeNext_11 rfl (fun q => absurd q (nI_nlt (Nat.le_refl _) (by omega))) (fun _ => ?_)
  refine xt_iconst (0) dX6_takeNext_14 rfl ?_
  exact xt_zret dX6_takeNext_15 rfl (Or.inl rfl) (lb rfl) (lb rfl) ⟨rfl, rfl, rfl⟩
set_option maxHeartbeats 400000 in
set_option maxRecDepth 100000 in
theorem cn_X6_takeNext {h : ax_H} {n : Nat} {wb B m0 : Nat} {q : Nat → Int32} {bz : Int32} {f g : Nat → Int32} {sp : Nat → Int32} {pi : Nat → Nat} {pp : Nat → Nat → Int32} {nw : Nat → Int32} {sb hd dw : Int32} (k1 : SF h B sp pi pp (nI m0) nw sb hd dw) (hbz : bz = 0 ∨ bz = 1) (hsb : sb = 0 ∨ sb = 1) (hsh : hd = 0 ∨ hd = 1) (hdj : B + 16 ≤ wb ∨ wb + 4 ≤ B) (hm0 : m0 ≤ 12) (t : Nat) (ht : t < m0) (hpi : pi t < 12) : ax_C yX6_takeNext cX6_takeNext 1 (some .boolean) 1 0 0 [.ref wb] (wkU h wb B q bz (nI t) f g) n (ki 1 (wkU h wb B (pp (pi t)) (1) (nI (t + 1)) f g) n) := by
  refine ax_C.go RX6 "takeNext" [some (.ref wb)] rfl rfl pn_X6 (lb rfl) rfl (fun l G cy bs => ?_)
  refine al0 dX6_takeNext_0 ?_
  refine g_X6_22 dX6_takeNext_1 wu_0 ?_
  refine al0 dX6_takeNext_4 ?_
  refine g_X6_33 dX6_takeNext_5 wu_0 ?_
  refine g_X6_72 dX6_takeNext_8 (wu_o (by omega) k1.1) ?_
  refine xt_icmp_lt 16 dX6_takeNext_11 rfl (fun _ => ?_) (fun q => absurd (nI_lt ht (by omega)) q)
  refine al0 dX6_takeNext_16 ?_
  refine g_X6_12 dX6_takeNext_17 wu_0 ?_
  refine al0 dX6_takeNext_20 ?_
  refine g_X6_33 dX6_takeNext_21 wu_0 ?_
  refine g_X6_75 dX6_takeNext_24 (wu_o (by omega) k1.1) ?_
  refine al0 dX6_takeNext_27 ?_
  refine g_X6_22 dX6_takeNext_28 wu_0 ?_
  refine xt_aald3 (t) (wu_o (by omega) k1.2.2.1) (by omega) rfl (by decide) rfl dX6_takeNext_31 ?_
  refine s_X6_40 dX6_takeNext_32 (cn_X2_copyFrom wu_1 (wu_o (by omega) (k1.2.2.2.2 (pi (t)) (by omega))) (by omega)) wu_1 ⟨lb rfl, lb rfl, lb rfl, lb rfl⟩ ?_
  refine xt_heq wu_q1 ?_
  refine al0 dX6_takeNext_35 ?_
  refine xt_dup dX6_takeNext_36 rfl ?_
  refine g_X6_22 dX6_takeNext_37 wu_0 ?_
  refine xt_iconst (1) dX6_takeNext_40 rfl ?_
  refine xt_iadd dX6_takeNext_41 ?_
  refine xt_eqv (nI (t + 1)) (nI_1 _) ?_
  refine p_X6_22 dX6_takeNext_42 wu_0 ?_
  refine xt_heq wu_q0 ?_
  refine al0 dX6_takeNext_45 ?_
  refine xt_iconst (1) dX6_takeNext_46 rfl ?_
  refine p_X6_18 dX6_takeNext_47 (Or.inr rfl) wu_0 ?_
  refine xt_heq wu_q0 ?_
  refine xt_iconst (1) dX6_takeNext_50 rfl ?_
  exact xt_zret dX6_takeNext_51 rfl (Or.inr rfl) (lb rfl) (lb rfl) ⟨rfl, rfl, rfl⟩
theorem RR_beg {r0 r : Nat → Int32} {m0 t : Nat} (h : RR r0 m0 r t) (ht : t < m0) : RR r0 m0 (bgE r (m0 - t)) (t + 1) ∧ NW (bgE r (m0 - t)) 0 := by
  obtain ⟨h1, h2, h3, h4, h5⟩ := h
  obtain ⟨m, hm⟩ : ∃ m, m0 - t = m + 1 := ⟨m0 - t - 1, by omega⟩
  have e : m0 - (t + 1) = m := by omega
  rw [hm] at h2 h5 ⊢
  obtain ⟨b1, b2, -⟩ := beg_inv h2.1
  refine ⟨⟨by omega, by rw [e]; exact ⟨b1, Or.inr ⟨0, b2⟩⟩, by rw [bgE_eq]; simp; exact h3, by rw [bgE_eq]; simp; exact h4, fun j a b => ?_⟩, b2⟩
  rw [e] at b
  rw [bgE_eq, if_neg (by omega), if_neg (by omega), if_neg (by omega), if_neg (by omega), if_neg (by omega), if_pos (by omega), h5 _ (by omega) (by omega)]
  congr 1; omega
theorem EV_tl (a b c : Int32) : EV (tl 2 a b c) := ⟨1, 0, 0, rfl, rfl, rfl, by omega, by omega, by omega, by omega, rfl⟩
theorem NQ_beg {r0 r q : Nat → Int32} {m0 t : Nat} (h : RR r0 m0 r t) (ht : t < m0) (hq : ∀ j, j < 9 → q j = tlR r0 t j) : NQ q (bgE r (m0 - t)) := by
  have h5 : ∀ j, j < 4 → r (13 + j) = r0 (13 + 4 * t + j) := fun j hj => by rw [h.2.2.2.2 _ (by omega) (by omega)]; congr 1; omega
  have hb := (RR_beg h ht).2
  have e0 : r 13 = r0 (13 + 4 * t) := h5 0 (by omega)
  have e1 : r 14 = r0 (13 + 4 * t + 1) := h5 1 (by omega)
  have e2 : r 15 = r0 (13 + 4 * t + 2) := h5 2 (by omega)
  have e3 : r 16 = r0 (13 + 4 * t + 3) := h5 3 (by omega)
  have hp := NW_pos hb
  have b5 : bgE r (m0 - t) 5 = r0 (13 + 4 * t) := by rw [bgE_eq]; simp; exact e0
  refine NQ_congr (q := tlR r0 t) hq (fun _ _ _ => rfl) ⟨b5.symm, ?_, ?_, ?_, ?_, ?_, ?_, hp, fun k => ?_⟩
  · rw [bgE_eq]; simp; exact e1.symm
  · rw [bgE_eq]; simp; exact e2.symm
  · rw [bgE_eq]; simp; exact e3.symm
  · rw [bgE_eq]; simp; rfl
  · rw [bgE_eq]; simp; show - _ = - _; rw [e1]
  · rw [bgE_eq]; simp; show - _ = - _; rw [e2]
  · rw [b5] at k
    show EV (tl (r0 (13 + 4 * t)) _ _ _)
    rw [k]; exact EV_tl _ _ _
theorem RR_neg {r0 r : Nat → Int32} {m0 t : Nat} (h : RR r0 m0 r t) (h5 : r 5 = -1) : rFlag r = if t < m0 then 1 else 0 := by
  unfold rFlag
  have hm := h.2.1.1.1
  have hl := h.2.1.1.2.1
  rw [if_neg (neg_m1 h5), hm]
  by_cases ht : t < m0
  · rw [if_pos ht, if_neg (nI_ne0 (by omega) (by omega))]
  · rw [if_neg ht, show m0 - t = 0 by omega, if_pos nI_0]
def spF (f g : Nat → Int32) : Nat → Nat → Int32
  | 0 => f
  | j + 1 => upd (spF f g j) j (spF f g j j + g j)
theorem spF_s (f g : Nat → Int32) (j : Nat) : spF f g (j + 1) = upd (spF f g j) j (spF f g j j + g j) := rfl
theorem spF_eq (f g : Nat → Int32) : ∀ j i, spF f g j i = if i < j then f i + g i else f i
  | 0, i => by rw [if_neg (by omega)]; rfl
  | j + 1, i => by
    rw [spF_s, upd]
    by_cases e : i = j
    · subst e; rw [if_pos rfl, if_pos (by omega), spF_eq f g i, if_neg (by omega)]
    · rw [if_neg e, spF_eq f g j]
      by_cases h : i < j
      · rw [if_pos h, if_pos (by omega)]
      · rw [if_neg h, if_neg (by omega)]
theorem remQ_ok {q r : Nat → Int32} (h : NQ q r) (hn : pcOK r 5) : remQ q = sNow r := by
  obtain ⟨h0, h1, h2, h3, h4, -, -, h5, -⟩ := h
  unfold remQ sNow
  have : okP (q 0) (q 1) (q 2) (q 3) := by rw [h0, h1, h2, h3]; exact hn
  rw [totQ_eq this, if_pos h5, h0, h1, h2, h3, h4]
  rfl
/-- behind a step of NOW: whether it goes on, and the rows -/
theorem step_end {q2 f2 r0 rb : Nat → Int32} {m0 t d : Nat} (hA : AD q2 f2 rb) (hR : RR r0 m0 rb t) (hn : NW rb d) : NB q2 (if remQ q2 ≤ 0 then 0 else 1) (sEnd (sgo rb (z3 (fun _ => 0))).1) ∧ RR r0 m0 (sEnd (sgo rb (z3 (fun _ => 0))).1) t ∧ ∀ i, i < 3 → sEnd (sgo rb (z3 (fun _ => 0))).1 i = rb i + f2 i := by
  obtain ⟨a1, a2⟩ := hA
  obtain ⟨h1, h2, h3, h4, h5⟩ := hR
  obtain ⟨g1, -⟩ := go_inv (mv := z3 (fun _ => 0)) h2.1 hn
  generalize hx : (sgo rb (z3 (fun _ => 0))).1 = x at *
  have ek : ∀ c, 3 ≤ c → c ≠ 10 → c ≠ 11 → x c = rb c := fun c q1 q2 q3 => by rw [← hx]; exact sgo_keep rb _ q1 q2 q3
  have es : ∀ c, c ≠ 9 → c ≠ 5 → sEnd x c = x c := fun c q1 q2 => by
    unfold sEnd sDone; split
    · rw [upd, if_neg q2, upd, if_neg q1]
    · rw [upd, if_neg q1]
  have ed : ∀ c, c ≠ 9 → sDone x c = x c := fun c q1 => by unfold sDone; rw [upd, if_neg q1]
  have hok : pcOK (sDone x) 5 := by
    show okP (sDone x 5) (sDone x 6) (sDone x 7) (sDone x 8)
    rw [ed 5 (by omega), ed 6 (by omega), ed 7 (by omega), ed 8 (by omega), ek 5 (by omega) (by omega) (by omega), ek 6 (by omega) (by omega) (by omega), ek 7 (by omega) (by omega) (by omega), ek 8 (by omega) (by omega) (by omega)]
    exact hn.1
  have hrem := remQ_ok a1 hok
  have hval : sNow (sDone x) = nI (stAt rb 5 - (d + 1)) := by
    have hst := rSteps_eq hn.1
    have hd := hn.2.2.1
    unfold sNow sAt
    rw [if_pos a1.2.2.2.2.2.2.2.1]
    show rSteps (sDone x 5) (sDone x 6) (sDone x 7) (sDone x 8) - _ = _
    rw [ed 5 (by omega), ed 6 (by omega), ed 7 (by omega), ed 8 (by omega), ek 5 (by omega) (by omega) (by omega), ek 6 (by omega) (by omega) (by omega), ek 7 (by omega) (by omega) (by omega), ek 8 (by omega) (by omega) (by omega)]
    have e9 : sDone x 9 = nI (d + 1) := by unfold sDone; rw [upd, if_pos rfl, ek 9 (by omega) (by omega) (by omega), hn.2.1]; exact nI_1 d
    rw [e9]
    show rSteps (rb 5) (rb (5 + 1)) (rb (5 + 2)) (rb (5 + 3)) - _ = _
    rw [hst.1]
    exact pk_sub (by have : d < stN (rb 5) (rb (5 + 1)) (rb (5 + 2)) (rb (5 + 3)) := hd; omega)
  refine ⟨?_, ⟨h1, g1, by rw [es 3 (by omega) (by omega), ek 3 (by omega) (by omega) (by omega)]; exact h3, by rw [es 4 (by omega) (by omega), ek 4 (by omega) (by omega) (by omega)]; exact h4, fun j a b => by rw [es j (by omega) (by omega), ek j (by omega) (by omega) (by omega)]; exact h5 j a b⟩, fun i hi => by rw [es i (by omega) (by omega)]; exact (a2 i hi).2⟩
  have h99 : stAt rb 5 ≤ 99 := (rSteps_eq hn.1).2.2
  rw [hrem]
  by_cases hz : stAt rb 5 - (d + 1) = 0
  · have e0 : sNow (sDone x) = 0 := by rw [hval, hz]; rfl
    rw [if_pos (by rw [e0]; decide)]
    refine Or.inl ⟨rfl, ?_⟩
    unfold sEnd
    rw [if_pos e0, upd, if_pos rfl]
  · rw [if_neg (by rw [hval]; exact nI_nle (by omega) (by omega))]
    refine Or.inr ⟨rfl, ?_⟩
    unfold sEnd
    rw [if_neg (by rw [hval]; exact nI_ne0 (by omega) (by omega))]
    exact a1
set_option maxHeartbeats 400000 in
set_option maxRecDepth 100000 in
theorem cr_X6_advance {h : ax_H} {n : Nat} {wb B m0 t : Nat} {r0 r f g : Nat → Int32} (hW : WR h wb B r0 m0 r t f g) (hdj : B + 16 ≤ wb ∨ wb + 4 ≤ B) : ax_C yX6_advance cX6_advance 2 (some .boolean) 4 0 0 [.ref wb] h n (kE (rFlag r) (fun h2 => (∃ t2 f2 g2, WR h2 wb B r0 m0 (nx r) t2 f2 g2 ∧ (¬ rFlag r = 0 → ∀ i, i < 3 → g2 i = mo r i)) ∧ fr wb 4 h h2) n) := by
  refine ax_C.go RX6 "advance" [some (.ref wb), none] rfl rfl pn_X6 (lb rfl) rfl (fun l G cy bs => ?_)
  obtain ⟨q, bz, w1, hS, w3, w4, w5⟩ := hW
  have hS0 := hS
  obtain ⟨sp, pi, pp, nw, sb, hd, dw, k1, k2, ⟨s1, s2, s3, s4, s5, s6⟩, k4⟩ := hS
  have hsb := s5.b
  have hsh := s6
  have hm0 := k4.1.2.1
  have hbz := w4.b
  have go : ∀ (q1 : Nat → Int32) (t1 : Nat) (rb : Nat → Int32) (d : Nat), NQ q1 rb → NW rb d → RR r0 m0 rb t1 → (∀ j, j < 3 → f j = rb j) → rFlag r = 1 → nx r = sEnd (sgo rb (z3 (fun _ => 0))).1 → (∀ i, mo r i = (sgo rb (z3 (fun _ => 0))).2 i) → ax_T l G cy bs (ax_rm 4 0 0) RX6 "advance" cX6_advance 2 (some .boolean) (kE (rFlag r) (fun h2 => (∃ t2 f2 g2, WR h2 wb B r0 m0 (nx r) t2 f2 g2 ∧ (¬ rFlag r = 0 → ∀ i, i < 3 → g2 i = mo r i)) ∧ fr wb 4 h h2) n) 0 0 16 [some (.ref wb), none] [] (wkU h wb B (q1) (1) (nI t1) f g) n 0 0 := by
    intro q1 t1 rb d n1 n2 n3 n4 n5 n6 n7
    have lp : ∀ (q2 g2 : Nat → Int32), AD q2 g2 rb → ∀ (e j : Nat), j + e = 3 → ∀ f1 : Nat → Int32, f1 = spF f g2 j → ax_T l G cy bs (ax_rm 4 0 0) RX6 "advance" cX6_advance 2 (some .boolean) (kE (rFlag r) (fun h2 => (∃ t2 f2 g2, WR h2 wb B r0 m0 (nx r) t2 f2 g2 ∧ (¬ rFlag r = 0 → ∀ i, i < 3 → g2 i = mo r i)) ∧ fr wb 4 h h2) n) 0 0 29 [some (.ref wb), some (.int (nI j))] [] (wkU h wb B (q2) (1) (nI t1) (f1) (g2)) n 0 0 := by
      intro q2 g2 hA e
      induction e with
      | zero =>
        intro j hj f1 hf1
        obtain rfl : j = 3 := by omega
        have he := step_end hA n3 n2
        refine il1 dX6_advance_29 ?_
        refine xt_iconst (3) dX6_advance_30 rfl ?_
        refine xt_icmp_ge 55 dX6_advance_31 rfl (fun _ => ?_) (fun q => absurd (by decide) q)
        refine al0 dX6_advance_55 ?_
        refine al0 dX6_advance_56 ?_
        refine g_X6_12 dX6_advance_57 wu_0 ?_
        refine s_X6_83 dX6_advance_60 (cn_X2_remaining wu_1) wu_1 ⟨lb rfl, lb rfl, lb rfl, lb rfl⟩ ?_
        apply xj_if_le 70 dX6_advance_63 rfl
        · intro k63
          refine ⟨fun c63 => ?_, fun c63 => ?_⟩
          · refine xt_iconst (0) dX6_advance_70 rfl ?_
            exact xt_it1 k63 c63
          · refine xt_iconst (1) dX6_advance_66 rfl ?_
            refine xt_goto 71 dX6_advance_67 rfl ?_
            exact xt_it2 k63 c63
        · skip
          refine p_X6_18 dX6_advance_71 (by split <;> simp) wu_0 ?_
          refine xt_heq wu_q0 ?_
          refine xt_iconst (1) dX6_advance_74 rfl ?_
          exact xt_zret dX6_advance_75 rfl (Or.inr rfl) (lb rfl) (lb rfl) ⟨by rw [n5], ⟨⟨t1, f1, g2, ⟨q2, _, WF_wu, hS0.fr (fun j a b => wu_n (by omega)), fun j hj => (by rw [n6, he.2.2 j hj, hf1, spF_eq, if_pos hj, n4 j hj]), by rw [n6]; exact he.1, by rw [n6]; exact he.2.1⟩, fun _ i hi => (by rw [n7]; exact (hA.2 i hi).1)⟩, fr_wu⟩, rfl⟩
      | succ e ih =>
        intro j hj f1 hf1
        refine il1 dX6_advance_29 ?_
        refine xt_iconst (3) dX6_advance_30 rfl ?_
        refine xt_icmp_ge 55 dX6_advance_31 rfl (fun q => absurd q (nI_ge (a := j) (b := 3) (by omega) (by decide))) (fun _ => ?_)
        refine al0 dX6_advance_34 ?_
        refine g_X6_26 dX6_advance_35 wu_0 ?_
        refine il1 dX6_advance_38 ?_
        refine xt_dup2 dX6_advance_39 rfl rfl ?_
        refine xt_iald (j) wu_2 (by omega) rfl (by decide) dX6_advance_40 ?_
        refine al0 dX6_advance_41 ?_
        refine g_X6_30 dX6_advance_42 wu_0 ?_
        refine il1 dX6_advance_45 ?_
        refine xt_iald (j) wu_3 (by omega) rfl (by decide) dX6_advance_46 ?_
        refine xt_iadd dX6_advance_47 ?_
        refine xt_iast (j) wu_2 (by omega) rfl (by decide) dX6_advance_48 ?_
        refine xt_heq wu_q2 ?_
        refine inc1 (nI (j + 1)) dX6_advance_49 (nI_1 _) (by decide) rfl ?_
        refine xt_goto 29 dX6_advance_52 rfl ?_
        exact ih (j + 1) (by omega) _ (by rw [spF_s, ← hf1])
    refine al0 dX6_advance_16 ?_
    refine g_X6_12 dX6_advance_17 wu_0 ?_
    refine al0 dX6_advance_20 ?_
    refine g_X6_30 dX6_advance_21 wu_0 ?_
    refine sP_X6_79 dX6_advance_24 (cr_X2_advance wu_1 wu_3 (by omega) n1 n2) wu_1 ⟨lb rfl, lb rfl, lb rfl, lb rfl⟩ ?_
    rintro h2 ⟨q2, g2, rfl, hA⟩
    refine xt_heq ((congrArg (fun z => hp z _ _) wu_q3).trans wu_q1) ?_
    refine xt_iconst (0) dX6_advance_27 rfl ?_
    refine is1 dX6_advance_28 (by decide) rfl ?_
    exact lp q2 g2 hA 3 0 rfl _ rfl
  refine xt_heq (wu_id w1).symm ?_
  rcases w4 with ⟨rfl, hr5⟩ | ⟨rfl, hnq⟩
  · have hfl := RR_neg w5 hr5
    by_cases ht : t < m0
    · rw [if_pos ht] at hfl
      obtain ⟨b1, b2⟩ := RR_beg w5 ht
      have hmO : mOf r = m0 - t := mOf_eq w5.2.1.1.1 (by omega)
      have hbg : rBeg r (m0 - t) = bgE r (m0 - t) := by unfold rBeg; rw [if_neg (neg_m1 hr5)]
      refine al0 dX6_advance_0 ?_
      refine g_X6_18 dX6_advance_1 wu_0 ?_
      refine xt_if_ne 16 dX6_advance_4 rfl (fun q => absurd rfl q) (fun _ => ?_)
      refine al0 dX6_advance_7 ?_
      refine s_X6_55 dX6_advance_8 (cn_X6_takeNext k1 hbz hsb hsh hdj hm0 t ht (k2.1 t (by omega))) wu_0 ⟨lb rfl, lb rfl, lb rfl, lb rfl⟩ ?_
      refine xt_if_ne 16 dX6_advance_11 rfl (fun _ => ?_) (fun q => absurd q (by decide))
      exact go _ (t + 1) (bgE r (m0 - t)) 0 (NQ_beg w5 ht (s4 t ht)) b2 b1 (fun j hj => by rw [w3 j hj, bgE_eq, if_neg (by omega), if_neg (by omega), if_neg (by omega), if_neg (by omega), if_neg (by omega), if_neg (by omega)]) hfl (by unfold nx rStp; rw [hmO, if_neg (by rw [hfl]; decide), hbg]) (fun i => by unfold mo rStp; rw [hmO, if_neg (by rw [hfl]; decide), hbg])
    · rw [if_neg ht] at hfl
      obtain rfl : t = m0 := by have := w5.1; omega
      refine al0 dX6_advance_0 ?_
      refine g_X6_18 dX6_advance_1 wu_0 ?_
      refine xt_if_ne 16 dX6_advance_4 rfl (fun q => absurd rfl q) (fun _ => ?_)
      refine al0 dX6_advance_7 ?_
      refine s_X6_55 dX6_advance_8 (cn_X6_takeNext_n k1 hbz hsb hsh hdj hm0) wu_0 ⟨lb rfl, lb rfl, lb rfl, lb rfl⟩ ?_
      refine xt_if_ne 16 dX6_advance_11 rfl (fun q => absurd rfl q) (fun _ => ?_)
      refine xt_iconst (0) dX6_advance_14 rfl ?_
      exact xt_zret dX6_advance_15 rfl (Or.inl rfl) (lb rfl) (lb rfl) ⟨by rw [hfl], ⟨⟨t, f, g, ⟨q, 0, WF_wu, hS0.fr (fun j a b => wu_n (by omega)), by rw [(nx_0 hfl).1]; exact w3, by rw [(nx_0 hfl).1]; exact Or.inl ⟨rfl, hr5⟩, by rw [(nx_0 hfl).1]; exact w5⟩, fun x => absurd hfl x⟩, fr_wu⟩, rfl⟩
  · have hf1 : rFlag r = 1 := flag_now hnq.2.2.2.2.2.2.2.1
    have hmO : mOf r = m0 - t := mOf_eq w5.2.1.1.1 (by omega)
    have hbg : rBeg r (m0 - t) = r := by unfold rBeg; rw [if_pos hnq.2.2.2.2.2.2.2.1]
    obtain ⟨d, hnw⟩ : ∃ d, NW r d := by
      rcases w5.2.1.2 with e | e
      · exact absurd hnq.2.2.2.2.2.2.2.1 (neg_m1 e)
      · exact e
    refine al0 dX6_advance_0 ?_
    refine g_X6_18 dX6_advance_1 wu_0 ?_
    refine xt_if_ne 16 dX6_advance_4 rfl (fun _ => ?_) (fun q => absurd q (by decide))
    exact go q t r d hnq hnw w5 w3 hf1 (by unfold nx rStp; rw [hmO, if_neg (by rw [hf1]; decide), hbg]) (fun i => by unfold mo rStp; rw [hmO, if_neg (by rw [hf1]; decide), hbg])
set_option maxHeartbeats 400000 in
set_option maxRecDepth 100000 in
theorem cr_X6_settle {h : ax_H} {n : Nat} {wb B m0 t : Nat} {r0 r f g : Nat → Int32} (hW : WR h wb B r0 m0 r t f g) (hdj : B + 16 ≤ wb ∨ wb + 4 ≤ B) : ax_C yX6_settle cX6_settle 2 none 1 0 0 [.ref wb] h n (kP (fun h2 => SR h2 B r (m0 - t) ∧ WX h2 wb B ∧ ∀ j, (j < B ∨ B + 16 ≤ j) → (j < wb ∨ wb + 4 ≤ j) → h2 j = h j) n) := by
  refine ax_C.go RX6 "settle" [some (.ref wb), none] rfl rfl pn_X6 (lb rfl) rfl (fun l G cy bs => ?_)
  obtain ⟨q, bz, w1, hS, w3, w4, w5⟩ := hW
  obtain ⟨sp, pi, pp, nw, sb, hd, dw, k1, k2, ⟨s1, s2, s3, s4, s5, s6⟩, k4⟩ := hS
  have hsb := s5.b
  have hsh := s6
  have hm0 := k4.1.2.1
  have hbz := w4.b
  obtain ⟨a1, a2, a3, a4, a5⟩ := w5
  have lp : ∀ (e j : Nat), j + e = t → ∀ (p1 : Nat → Nat) (c0 : Nat), c0 + j = m0 → PW p1 → (∀ k, k < c0 → p1 k = pi (k + j)) → ax_T l G cy bs (ax_rm 1 0 0) RX6 "settle" cX6_settle 2 none (kP (fun h2 => SR h2 B r (m0 - t) ∧ WX h2 wb B ∧ ∀ j, (j < B ∨ B + 16 ≤ j) → (j < wb ∨ wb + 4 ≤ j) → h2 j = h j) n) 0 0 44 [some (.ref wb), some (.int (nI j))] [] (stU h B (va_cpy f sp 0 0 3) (p1) pp (nI c0) (q) (bz) hd dw) n 0 0 := by
    intro e
    induction e with
    | zero =>
      intro j hj p1 c0 hc hp hq
      obtain rfl : j = t := by omega
      obtain rfl : c0 = m0 - j := by omega
      refine il1 dX6_settle_44 ?_
      refine al0 dX6_settle_45 ?_
      refine g_X6_22 dX6_settle_46 (su_o (by omega) w1.1) ?_
      refine xt_icmp_ge 66 dX6_settle_49 rfl (fun _ => ?_) (fun q => absurd (nI_le (Nat.le_refl _) (by omega)) q)
      refine al0 dX6_settle_66 ?_
      refine xt_iconst (0) dX6_settle_67 rfl ?_
      refine p_X6_22 dX6_settle_68 (su_o (by omega) w1.1) ?_
      exact xt_ret dX6_settle_71 rfl (lb rfl) (lb rfl) ⟨rfl, ⟨SR.fr (h := (stU h B (va_cpy f sp 0 0 3) (p1) pp (nI (m0 - j)) (q) (bz) hd dw)) ⟨_, p1, pp, q, bz, hd, dw, SF_su, hp, ⟨fun i hi => (by rw [va_cpy3 _ _ hi]; exact w3 i hi), (by rw [a3]; exact s2), (by rw [a4]; exact s3), fun k hk i hi => (by
      rw [hq k hk, s4 (k + j) (by omega) i hi]
      rw [tlR_eq (r := r0) (r' := r) (k := k + j) (k' := k) (fun i q => by rw [a5 _ (by omega) (by omega)]; congr 1; omega)]), w4, s6⟩, a2⟩ (fun i x y => hp_n _ _ (by omega)), ⟨q, bz, 0, f, g, ⟨hp_s _ _ _, hp_nt (by omega) (su_o (by omega) w1.2.1), hp_nt (by omega) (su_o (by omega) w1.2.2.1), hp_nt (by omega) (su_o (by omega) w1.2.2.2)⟩, hbz⟩, fun i x y => by rw [hp_n _ _ (by omega), su_n (by omega)]⟩, rfl⟩
    | succ e ih =>
      intro j hj p1 c0 hc hp hq
      refine il1 dX6_settle_44 ?_
      refine al0 dX6_settle_45 ?_
      refine g_X6_22 dX6_settle_46 (su_o (by omega) w1.1) ?_
      refine xt_icmp_ge 66 dX6_settle_49 rfl (fun q => absurd q (nI_ge (by omega) (by omega))) (fun _ => ?_)
      refine al0 dX6_settle_52 ?_
      refine g_X6_33 dX6_settle_53 (su_o (by omega) w1.1) ?_
      refine xt_iconst (0) dX6_settle_56 rfl ?_
      refine s_X6_87 dX6_settle_57 (cn_X5_removeAt c0 0 (by omega) (by omega) hp.1) su_0 ⟨lb rfl, lb rfl, lb rfl, lb rfl⟩ ?_
      refine inc1 (nI (j + 1)) dX6_settle_60 (nI_1 _) (by decide) rfl ?_
      refine xt_goto 44 dX6_settle_63 rfl ?_
      exact ih (j + 1) (by omega) (rmP p1 0 c0) (c0 - 1) (by omega) (PW_rm (by omega) (by omega) hp) (fun k hk => by rw [rmP_eq p1 (by omega), if_neg (by omega), if_pos (by omega), hq _ (by omega)]; congr 1; omega)
  refine xt_heq (su_id k1).symm ?_
  refine al0 dX6_settle_0 ?_
  refine g_X6_33 dX6_settle_1 (su_o (by omega) w1.1) ?_
  refine g_X6_37 dX6_settle_4 su_0 ?_
  refine al0 dX6_settle_7 ?_
  refine g_X6_12 dX6_settle_8 (su_o (by omega) w1.1) ?_
  refine s_X6_40 dX6_settle_11 (cn_X2_copyFrom su_3 (su_o (by omega) w1.2.1) (by omega)) su_3 ⟨lb rfl, lb rfl, lb rfl, lb rfl⟩ ?_
  refine xt_heq su_q3 ?_
  refine al0 dX6_settle_14 ?_
  refine g_X6_33 dX6_settle_15 (su_o (by omega) w1.1) ?_
  refine al0 dX6_settle_18 ?_
  refine g_X6_18 dX6_settle_19 (su_o (by omega) w1.1) ?_
  refine p_X6_44 dX6_settle_22 hbz su_0 ?_
  refine xt_heq su_q0 ?_
  refine al0 dX6_settle_25 ?_
  refine g_X6_26 dX6_settle_26 (su_o (by omega) w1.1) ?_
  refine xt_iconst (0) dX6_settle_29 rfl ?_
  refine al0 dX6_settle_30 ?_
  refine g_X6_33 dX6_settle_31 (su_o (by omega) w1.1) ?_
  refine g_X6_45 dX6_settle_34 su_0 ?_
  refine xt_iconst (0) dX6_settle_37 rfl ?_
  refine xt_iconst (3) dX6_settle_38 rfl ?_
  refine s_X6_46i (0) (0) (3) dX6_settle_39 (su_o (by omega) w1.2.2.1) su_1 rfl rfl rfl (by omega) (by omega) ⟨by decide, by decide⟩ ⟨lb rfl, lb rfl⟩ ?_
  refine xt_heq su_q1 ?_
  refine xt_iconst (0) dX6_settle_42 rfl ?_
  refine is1 dX6_settle_43 (by decide) rfl ?_
  exact lp t 0 (by omega) pi m0 rfl k2 (fun _ _ => rfl)
theorem beg_as {r0 : Nat → Int32} {m0 : Nat} {kd : Int32} (h : RI r0 m0) (hn : ¬ 0 ≤ r0 5) (hm1 : 0 < m0) (hok : okP kd (r0 14) (r0 15) (r0 16)) : RR r0 m0 (bgE (upd r0 13 kd) m0) 1 ∧ NQ (tl kd (tlR r0 0 1) (tlR r0 0 2) (tlR r0 0 3)) (bgE (upd r0 13 kd) m0) := by
  have hR := RI_kd h hn hm1 hok
  have hRR : RR (upd r0 13 kd) m0 (upd r0 13 kd) 0 := ⟨by omega, hR, rfl, rfl, fun _ _ _ => rfl⟩
  have hb := RR_beg hRR hm1
  rw [Nat.sub_zero] at hb
  obtain ⟨⟨b1, b2, b3, b4, b5⟩, b6⟩ := hb
  refine ⟨⟨b1, b2, ?_, ?_, fun j x y => ?_⟩, ?_⟩
  · rw [b3, upd, if_neg (by omega)]
  · rw [b4, upd, if_neg (by omega)]
  · rw [b5 j x y, upd, if_neg (by omega)]
  · have hq := NQ_beg hRR hm1 (q := tlR (upd r0 13 kd) 0) (fun _ _ => rfl)
    rw [Nat.sub_zero] at hq
    have e : tlR (upd r0 13 kd) 0 = tl kd (tlR r0 0 1) (tlR r0 0 2) (tlR r0 0 3) := by
      simp [tlR, upd, tl]
    rw [← e]; exact hq
set_option maxHeartbeats 400000 in
set_option maxRecDepth 100000 in
theorem cr_X6_beginAs {h : ax_H} {n : Nat} {wb B m0 : Nat} {r0 : Nat → Int32} (hW : WX h wb B) (hS : SR h B r0 m0) (hdj : B + 16 ≤ wb ∨ wb + 4 ≤ B) (hn : ¬ 0 ≤ r0 5) (hm1 : 0 < m0) (kd : Int32) (hok : okP kd (r0 14) (r0 15) (r0 16)) : ax_C yX6_beginAs cX6_beginAs 2 none 2 0 0 [.ref wb, .int kd] h n (kP (fun h2 => (∃ f g, WR h2 wb B r0 m0 (bgE (upd r0 13 kd) m0) 1 f g) ∧ fr wb 4 h h2) n) := by
  refine ax_C.go RX6 "beginAs" [some (.ref wb), some (.int kd)] rfl rfl pn_X6 (lb rfl) rfl (fun l G cy bs => ?_)
  obtain ⟨fs, hwo⟩ : ∃ fs, h wb = some (.inr (6, fs)) := by obtain ⟨_, _, _, _, _, q, -⟩ := hW; exact ⟨_, q.1⟩
  refine al0 dX6_beginAs_0 ?_
  refine sP_X6_52 dX6_beginAs_1 (cr_X6_begin hW hS hdj) hwo ⟨lb rfl, lb rfl, lb rfl, lb rfl⟩ ?_
  rintro h1 ⟨⟨f, g, hW1⟩, hfr⟩
  obtain ⟨q, bz, w1, hS1, w3, w4, w5⟩ := hW1
  obtain ⟨rfl, -⟩ : bz = 0 ∧ r0 5 = -1 := by
    rcases w4 with e | e
    · exact e
    · exact absurd e.2.2.2.2.2.2.2.2.1 hn
  have hS2 := hS1
  obtain ⟨sp, pi, pp, nw, sb, hd, dw, k1, k2, ⟨s1, s2, s3, s4, s5, s6⟩, k4⟩ := hS1
  have hsb := s5.b
  have hsh := s6
  have hm0 := k4.1.2.1
  refine xt_heq (wu_id w1).symm ?_
  refine al0 dX6_beginAs_4 ?_
  refine g_X6_18 dX6_beginAs_5 wu_0 ?_
  refine xt_if_ne 47 dX6_beginAs_8 rfl (fun q => absurd rfl q) (fun _ => ?_)
  refine al0 dX6_beginAs_11 ?_
  refine s_X6_55 dX6_beginAs_12 (cn_X6_takeNext k1 (Or.inl rfl) hsb hsh hdj hm0 0 hm1 (k2.1 0 (by omega))) wu_0 ⟨lb rfl, lb rfl, lb rfl, lb rfl⟩ ?_
  refine xt_if_eq 47 dX6_beginAs_15 rfl (fun q => absurd q (by decide)) (fun _ => ?_)
  refine al0 dX6_beginAs_18 ?_
  refine g_X6_12 dX6_beginAs_19 wu_0 ?_
  refine il1 dX6_beginAs_22 ?_
  refine al0 dX6_beginAs_23 ?_
  refine g_X6_12 dX6_beginAs_24 wu_0 ?_
  refine g_X6_59 dX6_beginAs_27 wu_1 ?_
  refine al0 dX6_beginAs_30 ?_
  refine g_X6_12 dX6_beginAs_31 wu_0 ?_
  refine g_X6_62 dX6_beginAs_34 wu_1 ?_
  refine al0 dX6_beginAs_37 ?_
  refine g_X6_12 dX6_beginAs_38 wu_0 ?_
  refine g_X6_65 dX6_beginAs_41 wu_1 ?_
  refine s_X6_68 dX6_beginAs_44 (cn_X2_tell wu_1 _ _ _ _) wu_1 ⟨lb rfl, lb rfl, lb rfl, lb rfl⟩ ?_
  refine xt_heq wu_q1 ?_
  exact xt_ret dX6_beginAs_47 rfl (lb rfl) (lb rfl) ⟨rfl, ⟨⟨f, g, _, 1, WF_wu, hS2.fr (fun j a b => wu_n (by omega)), fun j hj => (by rw [w3 j hj, bgE_eq, if_neg (by omega), if_neg (by omega), if_neg (by omega), if_neg (by omega), if_neg (by omega), if_neg (by omega), upd, if_neg (by omega)]), Or.inr ⟨rfl, (by
    have hb := beg_as k4 hn hm1 hok
    rw [s4 0 hm1 1 (by omega), s4 0 hm1 2 (by omega), s4 0 hm1 3 (by omega)]
    exact hb.2)⟩, (beg_as k4 hn hm1 hok).1⟩, fun j hj => (wu_n (by omega)).trans (hfr j hj)⟩, rfl⟩
