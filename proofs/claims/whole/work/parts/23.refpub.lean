theorem fl1 {P : Prop} [Decidable P] (h : P) : ¬ (if P then (1 : Int32) else 0) = 0 := by rw [if_pos h]; decide
theorem fl0 {P : Prop} [Decidable P] (h : ¬ P) : (if P then (1 : Int32) else 0) = 0 := if_neg h
def shR (w : Nat → Int32) : Nat → Nat → Int32
  | 0 => w
  | k + 1 => upd (shR w k) (122 + k) (shR w k (122 + k + 61))
theorem shR_s (w : Nat → Int32) (k : Nat) : shR w (k + 1) = upd (shR w k) (122 + k) (shR w k (122 + k + 61)) := rfl
theorem shR_eq (w : Nat → Int32) : ∀ k, shR w k = fun j => if 122 ≤ j ∧ j < 122 + k then w (j + 61) else w j
  | 0 => by funext j; simp only [shR]; rw [if_neg (by omega)]
  | k + 1 => by
    have ih := shR_eq w k
    funext j
    simp only [shR, ih, upd]
    by_cases hj : j = 122 + k
    · subst hj
      rw [if_pos rfl, if_neg (by omega), if_pos (by omega)]
    · rw [if_neg hj]
      by_cases h2 : 122 ≤ j ∧ j < 122 + k
      · rw [if_pos h2, if_pos (by omega)]
      · rw [if_neg h2, if_neg (by omega)]
def shW (W : Nat → Nat → Int32) : Nat → Nat → Int32 := fun q => if 2 ≤ q ∧ q < 7 then W (q + 1) else W q
theorem shR_row (W : Nat → Nat → Int32) : shR (jn W) 305 = jn (shW W) := by
  rw [shR_eq]
  funext j
  by_cases h1 : 2 ≤ j / 61 ∧ j / 61 < 7
  · rw [if_pos (by omega)]
    have e1 : (j + 61) / 61 = j / 61 + 1 := by omega
    have e2 : (j + 61) % 61 = j % 61 := by omega
    simp only [jn, shW, e1, e2, if_pos h1]
  · rw [if_neg (by omega)]
    simp only [jn, shW, if_neg h1]
/-- behind 'minds': the rows; how many may be undone -/
def mdW (W : Nat → Nat → Int32) (u : Nat) : Nat → Nat → Int32 := if u = 6 then va_up (shW W) 7 (W 0) else va_up W (2 + u) (W 0)
def mdU (u : Nat) : Nat := if u = 6 then 6 else u + 1
theorem mdW_0 (W : Nat → Nat → Int32) (u : Nat) : mdW W u 0 = W 0 := by
  unfold mdW
  split
  · simp [va_up, shW]
  · rw [va_up, if_neg (by omega)]
theorem mdW_row (W : Nat → Nat → Int32) (u : Nat) : mdW W u = va_up (mdW W u) 0 (W 0) := by
  have := up_id (mdW W u) 0
  rw [mdW_0] at this
  exact this.symm
set_option maxHeartbeats 400000 in
set_option maxRecDepth 100000 in
theorem cn_X8_minds {h : ax_H} {n : Nat} {M : Nat} {iu td aT nu ab be : Int32} {tp mv rd ms mn la : Nat → Int32} {W : Nat → Nat → Int32} {it tk : Nat → Int64} (u : Nat) (hu : u ≤ 6) : ax_C yX8_minds cX8_minds 2 none 1 0 0 [.ref M] (mU h M (nI u) iu td aT nu ab be (jn W) tp mv rd ms mn la it tk) n (kv (mU h M (nI (mdU u)) iu td aT nu ab be (jn (mdW W u)) tp mv rd ms mn la it tk) n) := by
  refine ax_C.go RX8 "minds" [some (.ref M), none] rfl rfl pn_X8 (lb rfl) rfl (fun l G cy bs => ?_)
  rcases (show u = 6 ∨ u < 6 by omega) with hu6 | hu6
  · subst hu6
    have lp : ∀ (d k : Nat), k + d = 305 → ∀ w1 : Nat → Int32, w1 = shR (jn W) k → ax_T l G cy bs (ax_rm 1 0 0) RX8 "minds" cX8_minds 2 none (kv (mU h M (nI (mdU 6)) iu td aT nu ab be (jn (mdW W 6)) tp mv rd ms mn la it tk) n) 0 0 11 [some (.ref M), some (.int (nI k))] [] (mU h M (nI 6) iu td aT nu ab be (w1) tp mv rd ms mn la it tk) n 0 0 := by
      intro d
      induction d with
      | zero =>
        intro k hk w1 hw1
        obtain rfl : k = 305 := by omega
        rw [shR_row] at hw1
        subst hw1
        refine il1 dX8_minds_11 ?_
        refine xt_sipush (305) dX8_minds_12 rfl ?_
        refine xt_icmp_ge 45 dX8_minds_15 rfl (fun _ => ?_) (fun q => absurd (by decide) q)
        refine al0 dX8_minds_45 ?_
        refine xt_dup dX8_minds_46 rfl ?_
        refine g_X8_42 dX8_minds_47 mU_0 ?_
        refine xt_iconst (1) dX8_minds_50 rfl ?_
        refine xt_isub dX8_minds_51 ?_
        refine xt_eqv (nI (5)) (by decide) ?_
        refine p_X8_42 dX8_minds_52 mU_0 ?_
        refine xt_heq mU_p0 ?_
        refine al0 dX8_minds_55 ?_
        refine xt_iconst (0) dX8_minds_56 rfl ?_
        refine xt_bipush (122) dX8_minds_57 rfl ?_
        refine xt_bipush (61) dX8_minds_59 rfl ?_
        refine al0 dX8_minds_61 ?_
        refine g_X8_42 dX8_minds_62 mU_0 ?_
        refine xt_imul dX8_minds_65 ?_
        refine xt_iadd dX8_minds_66 ?_
        refine xt_eqv (nI (61 * 7)) (by decide) ?_
        refine s_X8_45 dX8_minds_67 (cn_X8_copyRow 0 (7) (by omega) (by omega) (by omega)) mU_0 ⟨lb rfl, lb rfl, lb rfl, lb rfl⟩ ?_
        refine al0 dX8_minds_70 ?_
        refine xt_dup dX8_minds_71 rfl ?_
        refine g_X8_42 dX8_minds_72 mU_0 ?_
        refine xt_iconst (1) dX8_minds_75 rfl ?_
        refine xt_iadd dX8_minds_76 ?_
        refine xt_eqv (nI (6)) (by decide) ?_
        refine p_X8_42 dX8_minds_77 mU_0 ?_
        refine xt_heq mU_p0 ?_
        exact xt_ret dX8_minds_80 rfl (lb rfl) (lb rfl) ⟨rfl, by simp [mdU, mdW, shW], rfl⟩
      | succ d ih =>
        intro k hk w1 hw1
        refine il1 dX8_minds_11 ?_
        refine xt_sipush (305) dX8_minds_12 rfl ?_
        refine xt_icmp_ge 45 dX8_minds_15 rfl (fun q => absurd q (nI_ge (a := k) (b := 305) (by omega) (by decide))) (fun _ => ?_)
        refine al0 dX8_minds_18 ?_
        refine g_X8_7 dX8_minds_19 mU_0 ?_
        refine xt_bipush (122) dX8_minds_22 rfl ?_
        refine il1 dX8_minds_24 ?_
        refine xt_iadd dX8_minds_25 ?_
        refine al0 dX8_minds_26 ?_
        refine g_X8_7 dX8_minds_27 mU_0 ?_
        refine xt_bipush (122) dX8_minds_30 rfl ?_
        refine il1 dX8_minds_32 ?_
        refine xt_iadd dX8_minds_33 ?_
        refine xt_bipush (61) dX8_minds_34 rfl ?_
        refine xt_iadd dX8_minds_36 ?_
        refine xt_iald (122 + k + 61) mU_1 (by omega) (ne_add (a := 122 + k) (b := 61) (ne_add (a := 122) (b := k) rfl rfl) rfl) (by decide) dX8_minds_37 ?_
        refine xt_iast (122 + k) mU_1 (by omega) (ne_add (a := 122) (b := k) rfl rfl) (by decide) dX8_minds_38 ?_
        refine xt_heq mU_p1 ?_
        refine inc1 (nI (k + 1)) dX8_minds_39 (nI_1 _) (by decide) rfl ?_
        refine xt_goto 11 dX8_minds_42 rfl ?_
        exact ih (k + 1) (by omega) _ (by rw [shR_s, ← hw1])
    refine al0 dX8_minds_0 ?_
    refine g_X8_42 dX8_minds_1 mU_0 ?_
    refine xt_bipush (6) dX8_minds_4 rfl ?_
    refine xt_icmp_ne 55 dX8_minds_6 rfl (fun q => absurd rfl q) (fun _ => ?_)
    refine xt_iconst (0) dX8_minds_9 rfl ?_
    refine is1 dX8_minds_10 (by decide) rfl ?_
    exact lp 305 0 rfl _ rfl
  · refine al0 dX8_minds_0 ?_
    refine g_X8_42 dX8_minds_1 mU_0 ?_
    refine xt_bipush (6) dX8_minds_4 rfl ?_
    refine xt_icmp_ne 55 dX8_minds_6 rfl (fun _ => ?_) (fun q => absurd q (fun e => absurd ((nI_eq (a := u) (b := 6) (by omega) (by decide)).mp e) (by omega)))
    refine al0 dX8_minds_55 ?_
    refine xt_iconst (0) dX8_minds_56 rfl ?_
    refine xt_bipush (122) dX8_minds_57 rfl ?_
    refine xt_bipush (61) dX8_minds_59 rfl ?_
    refine al0 dX8_minds_61 ?_
    refine g_X8_42 dX8_minds_62 mU_0 ?_
    refine xt_imul dX8_minds_65 ?_
    refine xt_iadd dX8_minds_66 ?_
    refine xt_eqv (nI (61 * (2 + u))) ((ne_add (a := 122) (b := (61) * (u)) rfl (ne_mul (a := 61) (b := u) rfl rfl)).trans (congrArg nI (by omega))) ?_
    refine s_X8_45 dX8_minds_67 (cn_X8_copyRow 0 (2 + u) (by omega) (by omega) (by omega)) mU_0 ⟨lb rfl, lb rfl, lb rfl, lb rfl⟩ ?_
    refine al0 dX8_minds_70 ?_
    refine xt_dup dX8_minds_71 rfl ?_
    refine g_X8_42 dX8_minds_72 mU_0 ?_
    refine xt_iconst (1) dX8_minds_75 rfl ?_
    refine xt_iadd dX8_minds_76 ?_
    refine xt_eqv (nI (u + 1)) (nI_1 _) ?_
    refine p_X8_42 dX8_minds_77 mU_0 ?_
    refine xt_heq mU_p0 ?_
    exact xt_ret dX8_minds_80 rfl (lb rfl) (lb rfl) ⟨rfl, by simp [mdU, mdW, show ¬ u = 6 by omega], rfl⟩
def lay (r : Nat → Int32) (c : Nat) (k x y z : Int32) : Nat → Int32 := upd (upd (upd (upd r c k) (c + 1) x) (c + 2) y) (c + 3) z
def kdS (r : Nat → Int32) : Nat → Int32
  | 0 => 0
  | k + 1 => kdS r k ||| ((1 : Int32) <<< (r (13 + 4 * k) &&& 31))
set_option maxHeartbeats 400000 in
set_option maxRecDepth 100000 in
theorem cn_X8_lays {h : ax_H} {n : Nat} {M : Nat} {un iu td aT nu ab be : Int32} {tp mv rd ms mn la : Nat → Int32} {W : Nat → Nat → Int32} {r : Nat → Int32} {q : Nat} {it tk : Nat → Int64} (c : Nat) (hq : q < 15) (hc : c + 3 < 61) (k x y z : Int32) : ax_C yX8_lays cX8_lays 6 none 0 0 0 [.ref M, .int (nI (61 * q + c)), .int k, .int x, .int y, .int z] (mU h M un iu td aT nu ab be (jn (va_up W q r)) tp mv rd ms mn la it tk) n (kv (mU h M un iu td aT nu ab be (jn (va_up W q (lay r c k x y z))) tp mv rd ms mn la it tk) n) := by
  refine ax_C.go RX8 "lays" [some (.ref M), some (.int (nI (61 * q + c))), some (.int k), some (.int x), some (.int y), some (.int z)] rfl rfl pn_X8 (lb rfl) rfl (fun l G cy bs => ?_)
  refine al0 dX8_lays_0 ?_
  refine g_X8_7 dX8_lays_1 mU_0 ?_
  refine il1 dX8_lays_4 ?_
  refine il2 dX8_lays_5 ?_
  refine xt_iast (61 * q + c) mU_1 (by omega) rfl (by decide) dX8_lays_6 ?_
  refine xt_heq (mU_pr (c := c) (by omega) (by omega)) ?_
  refine al0 dX8_lays_7 ?_
  refine g_X8_7 dX8_lays_8 mU_0 ?_
  refine il1 dX8_lays_11 ?_
  refine xt_iconst (1) dX8_lays_12 rfl ?_
  refine xt_iadd dX8_lays_13 ?_
  refine il3 dX8_lays_14 ?_
  refine xt_iast (61 * q + c + 1) mU_1 (by omega) (ne_add (a := 61 * q + c) (b := 1) rfl rfl) (by decide) dX8_lays_15 ?_
  refine xt_heq (mU_pr (c := c + 1) (by omega) (by omega)) ?_
  refine al0 dX8_lays_16 ?_
  refine g_X8_7 dX8_lays_17 mU_0 ?_
  refine il1 dX8_lays_20 ?_
  refine xt_iconst (2) dX8_lays_21 rfl ?_
  refine xt_iadd dX8_lays_22 ?_
  refine il4 dX8_lays_23 ?_
  refine xt_iast (61 * q + c + 2) mU_1 (by omega) (ne_add (a := 61 * q + c) (b := 2) rfl rfl) (by decide) dX8_lays_25 ?_
  refine xt_heq (mU_pr (c := c + 2) (by omega) (by omega)) ?_
  refine al0 dX8_lays_26 ?_
  refine g_X8_7 dX8_lays_27 mU_0 ?_
  refine il1 dX8_lays_30 ?_
  refine xt_iconst (3) dX8_lays_31 rfl ?_
  refine xt_iadd dX8_lays_32 ?_
  refine il5 dX8_lays_33 ?_
  refine xt_iast (61 * q + c + 3) mU_1 (by omega) (ne_add (a := 61 * q + c) (b := 3) rfl rfl) (by decide) dX8_lays_35 ?_
  refine xt_heq (mU_pr (c := c + 3) (by omega) (by omega)) ?_
  exact xt_ret dX8_lays_36 rfl (lb rfl) (lb rfl) ⟨rfl, rfl, rfl⟩
set_option maxHeartbeats 400000 in
set_option maxRecDepth 100000 in
theorem cn_X8_kinds {h : ax_H} {n : Nat} {M : Nat} {un iu td aT nu ab be : Int32} {tp mv rd ms mn la : Nat → Int32} {W : Nat → Nat → Int32} {it tk : Nat → Int64} (m : Nat) (hm : W 0 12 = nI m) (hm2 : m ≤ 12) : ax_C yX8_kinds cX8_kinds 3 (some .int) 0 0 0 [.ref M] (mU h M un iu td aT nu ab be (jn W) tp mv rd ms mn la it tk) n (ki (kdS (W 0) m) (mU h M un iu td aT nu ab be (jn W) tp mv rd ms mn la it tk) n) := by
  refine ax_C.go RX8 "kinds" [some (.ref M), none, none] rfl rfl pn_X8 (lb rfl) rfl (fun l G cy bs => ?_)
  have lp : ∀ (j k : Nat), k + j = m → ax_T l G cy bs (ax_rm 0 0 0) RX8 "kinds" cX8_kinds 3 (some .int) (ki (kdS (W 0) m) (mU h M un iu td aT nu ab be (jn W) tp mv rd ms mn la it tk) n) 0 0 4 [some (.ref M), some (.int (kdS (W 0) (k))), some (.int (nI (k)))] [] (mU h M un iu td aT nu ab be (jn W) tp mv rd ms mn la it tk) n 0 0 := by
    intro j
    induction j with
    | zero =>
      intro k hk
      obtain rfl : k = m := by omega
      refine il2 dX8_kinds_4 ?_
      refine al0 dX8_kinds_5 ?_
      refine g_X8_7 dX8_kinds_6 mU_0 ?_
      refine xt_bipush (12) dX8_kinds_9 rfl ?_
      refine xt_iald (12) mU_1 (by omega) rfl (by decide) dX8_kinds_11 ?_
      refine xt_top (congrArg Value.int (jnw (q := 0) (c := 12) (by omega) (by omega))) ?_
      refine xt_icmp_ge 37 dX8_kinds_12 rfl (fun _ => ?_) (fun q => absurd (by rw [hm]; exact nI_le (Nat.le_refl _) (by omega)) q)
      refine il1 dX8_kinds_37 ?_
      exact xt_iret dX8_kinds_38 rfl (lb rfl) (lb rfl) ⟨rfl, rfl, rfl⟩
    | succ j ih =>
      intro k hk
      refine il2 dX8_kinds_4 ?_
      refine al0 dX8_kinds_5 ?_
      refine g_X8_7 dX8_kinds_6 mU_0 ?_
      refine xt_bipush (12) dX8_kinds_9 rfl ?_
      refine xt_iald (12) mU_1 (by omega) rfl (by decide) dX8_kinds_11 ?_
      refine xt_top (congrArg Value.int (jnw (q := 0) (c := 12) (by omega) (by omega))) ?_
      refine xt_icmp_ge 37 dX8_kinds_12 rfl (fun q => absurd q (by rw [hm]; exact nI_ge (by omega) (by omega))) (fun _ => ?_)
      refine il1 dX8_kinds_15 ?_
      refine xt_iconst (1) dX8_kinds_16 rfl ?_
      refine al0 dX8_kinds_17 ?_
      refine g_X8_7 dX8_kinds_18 mU_0 ?_
      refine xt_bipush (13) dX8_kinds_21 rfl ?_
      refine xt_iconst (4) dX8_kinds_23 rfl ?_
      refine il2 dX8_kinds_24 ?_
      refine xt_imul dX8_kinds_25 ?_
      refine xt_iadd dX8_kinds_26 ?_
      refine xt_iald (13 + (4) * (k)) mU_1 (by omega) (ne_add (a := 13) (b := (4) * (k)) rfl (ne_mul (a := 4) (b := k) rfl rfl)) (by decide) dX8_kinds_27 ?_
      refine xt_top (congrArg Value.int (jnw (q := 0) (c := 13 + 4 * k) (by omega) (by omega))) ?_
      refine xt_ishl dX8_kinds_28 ?_
      refine xt_ior dX8_kinds_29 ?_
      refine is1 dX8_kinds_30 (by decide) rfl ?_
      refine inc2 (nI (k + 1)) dX8_kinds_31 (nI_1 _) (by decide) rfl ?_
      refine xt_goto 4 dX8_kinds_34 rfl ?_
      exact ih (k + 1) (by omega)
  refine xt_iconst (0) dX8_kinds_0 rfl ?_
  refine is1 dX8_kinds_1 (by decide) rfl ?_
  refine xt_iconst (0) dX8_kinds_2 rfl ?_
  refine is2 dX8_kinds_3 (by decide) rfl ?_
  exact lp m 0 (by omega)
set_option maxHeartbeats 400000 in
set_option maxRecDepth 100000 in
theorem cn_X8_place {h : ax_H} {n : Nat} {M : Nat} {un iu td aT nu ab be : Int32} {tp mv rd ms mn la : Nat → Int32} {W : Nat → Nat → Int32} {it tk : Nat → Int64} (a : Nat) (ha : a < 3) : ax_C yX8_place cX8_place 2 (some .int) 2 0 0 [.ref M, .int (nI a)] (mU h M un iu td aT nu ab be (jn W) tp mv rd ms mn la it tk) n (ki (W 0 a) (mU h M un iu td aT nu ab be (jn W) tp mv rd ms mn la it tk) n) := by
  refine ax_C.go RX8 "place" [some (.ref M), some (.int (nI a))] rfl rfl pn_X8 (lb rfl) rfl (fun l G cy bs => ?_)
  refine il1 dX8_place_0 ?_
  refine s_X8_108 dX8_place_1 (cn_X8_isAxis _) ⟨lb rfl, lb rfl, lb rfl, lb rfl⟩ ?_
  refine xt_if_eq 16 dX8_place_4 rfl (fun q => absurd q (fl1 ⟨nI_pos' (by omega), nI_le (b := 2) (by omega) (by decide)⟩)) (fun _ => ?_)
  refine al0 dX8_place_7 ?_
  refine g_X8_7 dX8_place_8 mU_0 ?_
  refine il1 dX8_place_11 ?_
  refine xt_iald (a) mU_1 (by omega) rfl (by decide) dX8_place_12 ?_
  refine xt_top (congrArg Value.int (jnw (q := 0) (c := a) (by omega) (by omega))) ?_
  refine xt_goto 18 dX8_place_13 rfl ?_
  exact xt_iret dX8_place_18 rfl (lb rfl) (lb rfl) ⟨rfl, rfl, rfl⟩
set_option maxHeartbeats 400000 in
set_option maxRecDepth 100000 in
theorem cn_X8_place_b {h : ax_H} {n : Nat} {M : Nat} {un iu td aT nu ab be : Int32} {tp mv rd ms mn la : Nat → Int32} {W : Nat → Nat → Int32} {it tk : Nat → Int64} (x : Int32) (hx : ¬ (0 ≤ x ∧ x ≤ 2)) : ax_C yX8_place cX8_place 2 (some .int) 2 0 0 [.ref M, .int x] (mU h M un iu td aT nu ab be (jn W) tp mv rd ms mn la it tk) n (ki ((-1000001)) (mU h M un iu td aT nu ab be (jn W) tp mv rd ms mn la it tk) n) := by
  refine ax_C.go RX8 "place" [some (.ref M), some (.int x)] rfl rfl pn_X8 (lb rfl) rfl (fun l G cy bs => ?_)
  refine il1 dX8_place_0 ?_
  refine s_X8_108 dX8_place_1 (cn_X8_isAxis _) ⟨lb rfl, lb rfl, lb rfl, lb rfl⟩ ?_
  refine xt_if_eq 16 dX8_place_4 rfl (fun _ => ?_) (fun q => absurd (fl0 hx) q)
  refine k_X8_112 dX8_place_16 ?_
  exact xt_iret dX8_place_18 rfl (lb rfl) (lb rfl) ⟨rfl, rfl, rfl⟩
set_option maxHeartbeats 400000 in
set_option maxRecDepth 100000 in
theorem cn_X8_piece_b1 {h : ax_H} {n : Nat} {M : Nat} {un iu td aT nu ab be : Int32} {tp mv rd ms mn la : Nat → Int32} {W : Nat → Nat → Int32} {it tk : Nat → Int64} (m : Nat) (hm : W 0 12 = nI m) (hm2 : m ≤ 12) (x b : Int32) (hx : ¬ (-1 ≤ x ∧ x ≤ nI m - 1)) : ax_C yX8_piece cX8_piece 4 (some .int) 5 0 0 [.ref M, .int x, .int b] (mU h M un iu td aT nu ab be (jn W) tp mv rd ms mn la it tk) n (ki ((-1000001)) (mU h M un iu td aT nu ab be (jn W) tp mv rd ms mn la it tk) n) := by
  refine ax_C.go RX8 "piece" [some (.ref M), some (.int x), some (.int b), none] rfl rfl pn_X8 (lb rfl) rfl (fun l G cy bs => ?_)
  refine il1 dX8_piece_0 ?_
  refine xt_i2l dX8_piece_1 ?_
  refine k_X8_113 dX8_piece_2 ?_
  refine al0 dX8_piece_5 ?_
  refine g_X8_7 dX8_piece_6 mU_0 ?_
  refine xt_bipush (12) dX8_piece_9 rfl ?_
  refine xt_iald (12) mU_1 (by omega) rfl (by decide) dX8_piece_11 ?_
  refine xt_top (congrArg Value.int (jnw (q := 0) (c := 12) (by omega) (by omega))) ?_
  refine xt_eqv (nI (m)) hm ?_
  refine xt_iconst (1) dX8_piece_12 rfl ?_
  refine xt_isub dX8_piece_13 ?_
  refine xt_i2l dX8_piece_14 ?_
  refine s_X8_51 dX8_piece_15 (cn_X8_inI _ (-1) (nI m - 1) rfl rfl) ⟨lb rfl, lb rfl, lb rfl, lb rfl⟩ ?_
  refine xt_if_eq 33 dX8_piece_18 rfl (fun _ => ?_) (fun q => absurd (fl0 hx) q)
  refine k_X8_112 dX8_piece_33 ?_
  exact xt_iret dX8_piece_35 rfl (lb rfl) (lb rfl) ⟨rfl, rfl, rfl⟩
set_option maxHeartbeats 400000 in
set_option maxRecDepth 100000 in
theorem cn_X8_piece_b2 {h : ax_H} {n : Nat} {M : Nat} {un iu td aT nu ab be : Int32} {tp mv rd ms mn la : Nat → Int32} {W : Nat → Nat → Int32} {it tk : Nat → Int64} (m : Nat) (hm : W 0 12 = nI m) (hm2 : m ≤ 12) (x b : Int32) (hx : -1 ≤ x ∧ x ≤ nI m - 1) (hb : ¬ (0 ≤ b ∧ b ≤ 4)) : ax_C yX8_piece cX8_piece 4 (some .int) 5 0 0 [.ref M, .int x, .int b] (mU h M un iu td aT nu ab be (jn W) tp mv rd ms mn la it tk) n (ki ((-1000001)) (mU h M un iu td aT nu ab be (jn W) tp mv rd ms mn la it tk) n) := by
  refine ax_C.go RX8 "piece" [some (.ref M), some (.int x), some (.int b), none] rfl rfl pn_X8 (lb rfl) rfl (fun l G cy bs => ?_)
  refine il1 dX8_piece_0 ?_
  refine xt_i2l dX8_piece_1 ?_
  refine k_X8_113 dX8_piece_2 ?_
  refine al0 dX8_piece_5 ?_
  refine g_X8_7 dX8_piece_6 mU_0 ?_
  refine xt_bipush (12) dX8_piece_9 rfl ?_
  refine xt_iald (12) mU_1 (by omega) rfl (by decide) dX8_piece_11 ?_
  refine xt_top (congrArg Value.int (jnw (q := 0) (c := 12) (by omega) (by omega))) ?_
  refine xt_eqv (nI (m)) hm ?_
  refine xt_iconst (1) dX8_piece_12 rfl ?_
  refine xt_isub dX8_piece_13 ?_
  refine xt_i2l dX8_piece_14 ?_
  refine s_X8_51 dX8_piece_15 (cn_X8_inI _ (-1) (nI m - 1) rfl rfl) ⟨lb rfl, lb rfl, lb rfl, lb rfl⟩ ?_
  refine xt_if_eq 33 dX8_piece_18 rfl (fun q => absurd q (fl1 hx)) (fun _ => ?_)
  refine il2 dX8_piece_21 ?_
  refine xt_i2l dX8_piece_22 ?_
  refine xt_lconst (0) dX8_piece_23 rfl ?_
  refine k_X8_49 dX8_piece_24 ?_
  refine s_X8_51 dX8_piece_27 (cn_X8_inI _ (0) (4) rfl rfl) ⟨lb rfl, lb rfl, lb rfl, lb rfl⟩ ?_
  refine xt_if_ne 36 dX8_piece_30 rfl (fun q => absurd (fl0 hb) q) (fun _ => ?_)
  refine k_X8_112 dX8_piece_33 ?_
  exact xt_iret dX8_piece_35 rfl (lb rfl) (lb rfl) ⟨rfl, rfl, rfl⟩
theorem nm1_le {m : Nat} (h : m < 1000) : (-1 : Int32) ≤ nI m - 1 := by
  rw [Int32.le_iff_toInt_le]
  have := pk_sub_toInt (a := m) (b := 1) (by omega) (by omega)
  have h1 : (-1 : Int32).toInt = -1 := by decide
  rw [h1]
  show (-1 : Int) ≤ (nI m - nI 1).toInt
  rw [this]
  omega
theorem nk_le {j m : Nat} (h : j < m) (h2 : m < 1000) : nI j ≤ nI m - 1 := by
  rw [Int32.le_iff_toInt_le]
  have := pk_sub_toInt (a := m) (b := 1) (by omega) (by omega)
  rw [show (1 : Int32) = nI 1 from rfl, this, nI_toInt (by omega)]
  omega
set_option maxHeartbeats 400000 in
set_option maxRecDepth 100000 in
theorem cn_X8_piece_n {h : ax_H} {n : Nat} {M : Nat} {un iu td aT nu ab be : Int32} {tp mv rd ms mn la : Nat → Int32} {W : Nat → Nat → Int32} {it tk : Nat → Int64} (m : Nat) (hm : W 0 12 = nI m) (hm2 : m ≤ 12) (b : Nat) (hb : b ≤ 4) (hn : ¬ 0 ≤ W 0 5) : ax_C yX8_piece cX8_piece 4 (some .int) 5 0 0 [.ref M, .int (-1), .int (nI b)] (mU h M un iu td aT nu ab be (jn W) tp mv rd ms mn la it tk) n (ki ((-1000004)) (mU h M un iu td aT nu ab be (jn W) tp mv rd ms mn la it tk) n) := by
  refine ax_C.go RX8 "piece" [some (.ref M), some (.int (-1)), some (.int (nI b)), none] rfl rfl pn_X8 (lb rfl) rfl (fun l G cy bs => ?_)
  refine il1 dX8_piece_0 ?_
  refine xt_i2l dX8_piece_1 ?_
  refine k_X8_113 dX8_piece_2 ?_
  refine al0 dX8_piece_5 ?_
  refine g_X8_7 dX8_piece_6 mU_0 ?_
  refine xt_bipush (12) dX8_piece_9 rfl ?_
  refine xt_iald (12) mU_1 (by omega) rfl (by decide) dX8_piece_11 ?_
  refine xt_top (congrArg Value.int (jnw (q := 0) (c := 12) (by omega) (by omega))) ?_
  refine xt_eqv (nI (m)) hm ?_
  refine xt_iconst (1) dX8_piece_12 rfl ?_
  refine xt_isub dX8_piece_13 ?_
  refine xt_i2l dX8_piece_14 ?_
  refine s_X8_51 dX8_piece_15 (cn_X8_inI _ (-1) (nI m - 1) rfl rfl) ⟨lb rfl, lb rfl, lb rfl, lb rfl⟩ ?_
  refine xt_if_eq 33 dX8_piece_18 rfl (fun q => absurd q (fl1 ⟨by decide, nm1_le (by omega)⟩)) (fun _ => ?_)
  refine il2 dX8_piece_21 ?_
  refine xt_i2l dX8_piece_22 ?_
  refine xt_lconst (0) dX8_piece_23 rfl ?_
  refine k_X8_49 dX8_piece_24 ?_
  refine s_X8_51 dX8_piece_27 (cn_X8_inI _ (0) (4) rfl rfl) ⟨lb rfl, lb rfl, lb rfl, lb rfl⟩ ?_
  refine xt_if_ne 36 dX8_piece_30 rfl (fun _ => ?_) (fun q => absurd q (fl1 ⟨nI_pos' (by omega), nI_le (b := 4) (by omega) (by decide)⟩))
  refine il1 dX8_piece_36 ?_
  refine xt_if_ge 52 dX8_piece_37 rfl (fun q => absurd q (by decide)) (fun _ => ?_)
  refine al0 dX8_piece_40 ?_
  refine g_X8_7 dX8_piece_41 mU_0 ?_
  refine xt_iconst (5) dX8_piece_44 rfl ?_
  refine xt_iald (5) mU_1 (by omega) rfl (by decide) dX8_piece_45 ?_
  refine xt_top (congrArg Value.int (jnw (q := 0) (c := 5) (by omega) (by omega))) ?_
  refine xt_if_ge 52 dX8_piece_46 rfl (fun q => absurd q hn) (fun _ => ?_)
  refine k_X8_115 dX8_piece_49 ?_
  exact xt_iret dX8_piece_51 rfl (lb rfl) (lb rfl) ⟨rfl, rfl, rfl⟩
set_option maxHeartbeats 400000 in
set_option maxRecDepth 100000 in
theorem cn_X8_piece_w {h : ax_H} {n : Nat} {M : Nat} {un iu td aT nu ab be : Int32} {tp mv rd ms mn la : Nat → Int32} {W : Nat → Nat → Int32} {it tk : Nat → Int64} (m : Nat) (hm : W 0 12 = nI m) (hm2 : m ≤ 12) (b : Nat) (hb : b < 4) (hn : 0 ≤ W 0 5) : ax_C yX8_piece cX8_piece 4 (some .int) 5 0 0 [.ref M, .int (-1), .int (nI b)] (mU h M un iu td aT nu ab be (jn W) tp mv rd ms mn la it tk) n (ki (W 0 (5 + b)) (mU h M un iu td aT nu ab be (jn W) tp mv rd ms mn la it tk) n) := by
  refine ax_C.go RX8 "piece" [some (.ref M), some (.int (-1)), some (.int (nI b)), none] rfl rfl pn_X8 (lb rfl) rfl (fun l G cy bs => ?_)
  refine il1 dX8_piece_0 ?_
  refine xt_i2l dX8_piece_1 ?_
  refine k_X8_113 dX8_piece_2 ?_
  refine al0 dX8_piece_5 ?_
  refine g_X8_7 dX8_piece_6 mU_0 ?_
  refine xt_bipush (12) dX8_piece_9 rfl ?_
  refine xt_iald (12) mU_1 (by omega) rfl (by decide) dX8_piece_11 ?_
  refine xt_top (congrArg Value.int (jnw (q := 0) (c := 12) (by omega) (by omega))) ?_
  refine xt_eqv (nI (m)) hm ?_
  refine xt_iconst (1) dX8_piece_12 rfl ?_
  refine xt_isub dX8_piece_13 ?_
  refine xt_i2l dX8_piece_14 ?_
  refine s_X8_51 dX8_piece_15 (cn_X8_inI _ (-1) (nI m - 1) rfl rfl) ⟨lb rfl, lb rfl, lb rfl, lb rfl⟩ ?_
  refine xt_if_eq 33 dX8_piece_18 rfl (fun q => absurd q (fl1 ⟨by decide, nm1_le (by omega)⟩)) (fun _ => ?_)
  refine il2 dX8_piece_21 ?_
  refine xt_i2l dX8_piece_22 ?_
  refine xt_lconst (0) dX8_piece_23 rfl ?_
  refine k_X8_49 dX8_piece_24 ?_
  refine s_X8_51 dX8_piece_27 (cn_X8_inI _ (0) (4) rfl rfl) ⟨lb rfl, lb rfl, lb rfl, lb rfl⟩ ?_
  refine xt_if_ne 36 dX8_piece_30 rfl (fun _ => ?_) (fun q => absurd q (fl1 ⟨nI_pos' (by omega), nI_le (b := 4) (by omega) (by decide)⟩))
  refine il1 dX8_piece_36 ?_
  refine xt_if_ge 52 dX8_piece_37 rfl (fun q => absurd q (by decide)) (fun _ => ?_)
  refine al0 dX8_piece_40 ?_
  refine g_X8_7 dX8_piece_41 mU_0 ?_
  refine xt_iconst (5) dX8_piece_44 rfl ?_
  refine xt_iald (5) mU_1 (by omega) rfl (by decide) dX8_piece_45 ?_
  refine xt_top (congrArg Value.int (jnw (q := 0) (c := 5) (by omega) (by omega))) ?_
  refine xt_if_ge 52 dX8_piece_46 rfl (fun _ => ?_) (fun q => absurd hn q)
  refine il1 dX8_piece_52 ?_
  refine xt_if_ge 60 dX8_piece_53 rfl (fun q => absurd q (by decide)) (fun _ => ?_)
  refine xt_iconst (5) dX8_piece_56 rfl ?_
  refine xt_goto 66 dX8_piece_57 rfl ?_
  refine is3 dX8_piece_66 (by decide) rfl ?_
  refine il2 dX8_piece_67 ?_
  refine xt_iconst (4) dX8_piece_68 rfl ?_
  refine xt_icmp_ge 83 dX8_piece_69 rfl (fun q => absurd q (nI_ge (a := b) (b := 4) (by omega) (by decide))) (fun _ => ?_)
  refine al0 dX8_piece_72 ?_
  refine g_X8_7 dX8_piece_73 mU_0 ?_
  refine il3 dX8_piece_76 ?_
  refine il2 dX8_piece_77 ?_
  refine xt_iadd dX8_piece_78 ?_
  refine xt_iald (5 + b) mU_1 (by omega) (ne_add (a := 5) (b := b) rfl rfl) (by decide) dX8_piece_79 ?_
  refine xt_top (congrArg Value.int (jnw (q := 0) (c := 5 + b) (by omega) (by omega))) ?_
  refine xt_goto 100 dX8_piece_80 rfl ?_
  exact xt_iret dX8_piece_100 rfl (lb rfl) (lb rfl) ⟨rfl, rfl, rfl⟩
set_option maxHeartbeats 400000 in
set_option maxRecDepth 100000 in
theorem cn_X8_piece_s {h : ax_H} {n : Nat} {M : Nat} {un iu td aT nu ab be : Int32} {tp mv rd ms mn la : Nat → Int32} {W : Nat → Nat → Int32} {it tk : Nat → Int64} (m : Nat) (hm : W 0 12 = nI m) (hm2 : m ≤ 12) (hn : 0 ≤ W 0 5) : ax_C yX8_piece cX8_piece 4 (some .int) 5 0 0 [.ref M, .int (-1), .int (nI 4)] (mU h M un iu td aT nu ab be (jn W) tp mv rd ms mn la it tk) n (ki (sNow (W 0)) (mU h M un iu td aT nu ab be (jn W) tp mv rd ms mn la it tk) n) := by
  refine ax_C.go RX8 "piece" [some (.ref M), some (.int (-1)), some (.int (nI 4)), none] rfl rfl pn_X8 (lb rfl) rfl (fun l G cy bs => ?_)
  refine il1 dX8_piece_0 ?_
  refine xt_i2l dX8_piece_1 ?_
  refine k_X8_113 dX8_piece_2 ?_
  refine al0 dX8_piece_5 ?_
  refine g_X8_7 dX8_piece_6 mU_0 ?_
  refine xt_bipush (12) dX8_piece_9 rfl ?_
  refine xt_iald (12) mU_1 (by omega) rfl (by decide) dX8_piece_11 ?_
  refine xt_top (congrArg Value.int (jnw (q := 0) (c := 12) (by omega) (by omega))) ?_
  refine xt_eqv (nI (m)) hm ?_
  refine xt_iconst (1) dX8_piece_12 rfl ?_
  refine xt_isub dX8_piece_13 ?_
  refine xt_i2l dX8_piece_14 ?_
  refine s_X8_51 dX8_piece_15 (cn_X8_inI _ (-1) (nI m - 1) rfl rfl) ⟨lb rfl, lb rfl, lb rfl, lb rfl⟩ ?_
  refine xt_if_eq 33 dX8_piece_18 rfl (fun q => absurd q (fl1 ⟨by decide, nm1_le (by omega)⟩)) (fun _ => ?_)
  refine il2 dX8_piece_21 ?_
  refine xt_i2l dX8_piece_22 ?_
  refine xt_lconst (0) dX8_piece_23 rfl ?_
  refine k_X8_49 dX8_piece_24 ?_
  refine s_X8_51 dX8_piece_27 (cn_X8_inI _ (0) (4) rfl rfl) ⟨lb rfl, lb rfl, lb rfl, lb rfl⟩ ?_
  refine xt_if_ne 36 dX8_piece_30 rfl (fun _ => ?_) (fun q => absurd q (fl1 ⟨by decide, by decide⟩))
  refine il1 dX8_piece_36 ?_
  refine xt_if_ge 52 dX8_piece_37 rfl (fun q => absurd q (by decide)) (fun _ => ?_)
  refine al0 dX8_piece_40 ?_
  refine g_X8_7 dX8_piece_41 mU_0 ?_
  refine xt_iconst (5) dX8_piece_44 rfl ?_
  refine xt_iald (5) mU_1 (by omega) rfl (by decide) dX8_piece_45 ?_
  refine xt_top (congrArg Value.int (jnw (q := 0) (c := 5) (by omega) (by omega))) ?_
  refine xt_if_ge 52 dX8_piece_46 rfl (fun _ => ?_) (fun q => absurd hn q)
  refine il1 dX8_piece_52 ?_
  refine xt_if_ge 60 dX8_piece_53 rfl (fun q => absurd q (by decide)) (fun _ => ?_)
  refine xt_iconst (5) dX8_piece_56 rfl ?_
  refine xt_goto 66 dX8_piece_57 rfl ?_
  refine is3 dX8_piece_66 (by decide) rfl ?_
  refine il2 dX8_piece_67 ?_
  refine xt_iconst (4) dX8_piece_68 rfl ?_
  refine xt_icmp_ge 83 dX8_piece_69 rfl (fun _ => ?_) (fun q => absurd (by decide) q)
  refine il1 dX8_piece_83 ?_
  refine xt_if_ge 95 dX8_piece_84 rfl (fun q => absurd q (by decide)) (fun _ => ?_)
  refine al0 dX8_piece_87 ?_
  refine xt_iconst (0) dX8_piece_88 rfl ?_
  refine s_X8_80 dX8_piece_89 (by have z := cn_X8_stillNow (h := h) (n := n) (M := M) (un := un) (iu := iu) (td := td) (aT := aT) (nu := nu) (ab := ab) (be := be) (tp := tp) (mv := mv) (rd := rd) (ms := ms) (mn := mn) (la := la) (it := it) (tk := tk) (W := W) (r := W 0) (q := 0) (by omega); rw [up_id] at z; exact z) mU_0 ⟨lb rfl, lb rfl, lb rfl, lb rfl⟩ ?_
  refine xt_goto 100 dX8_piece_92 rfl ?_
  exact xt_iret dX8_piece_100 rfl (lb rfl) (lb rfl) ⟨rfl, rfl, rfl⟩
set_option maxHeartbeats 400000 in
set_option maxRecDepth 100000 in
theorem cn_X8_piece_r {h : ax_H} {n : Nat} {M : Nat} {un iu td aT nu ab be : Int32} {tp mv rd ms mn la : Nat → Int32} {W : Nat → Nat → Int32} {it tk : Nat → Int64} (m : Nat) (hm : W 0 12 = nI m) (hm2 : m ≤ 12) (j b : Nat) (hj : j < m) (hb : b < 4) : ax_C yX8_piece cX8_piece 4 (some .int) 5 0 0 [.ref M, .int (nI j), .int (nI b)] (mU h M un iu td aT nu ab be (jn W) tp mv rd ms mn la it tk) n (ki (W 0 (13 + 4 * j + b)) (mU h M un iu td aT nu ab be (jn W) tp mv rd ms mn la it tk) n) := by
  refine ax_C.go RX8 "piece" [some (.ref M), some (.int (nI j)), some (.int (nI b)), none] rfl rfl pn_X8 (lb rfl) rfl (fun l G cy bs => ?_)
  refine il1 dX8_piece_0 ?_
  refine xt_i2l dX8_piece_1 ?_
  refine k_X8_113 dX8_piece_2 ?_
  refine al0 dX8_piece_5 ?_
  refine g_X8_7 dX8_piece_6 mU_0 ?_
  refine xt_bipush (12) dX8_piece_9 rfl ?_
  refine xt_iald (12) mU_1 (by omega) rfl (by decide) dX8_piece_11 ?_
  refine xt_top (congrArg Value.int (jnw (q := 0) (c := 12) (by omega) (by omega))) ?_
  refine xt_eqv (nI (m)) hm ?_
  refine xt_iconst (1) dX8_piece_12 rfl ?_
  refine xt_isub dX8_piece_13 ?_
  refine xt_i2l dX8_piece_14 ?_
  refine s_X8_51 dX8_piece_15 (cn_X8_inI _ (-1) (nI m - 1) rfl rfl) ⟨lb rfl, lb rfl, lb rfl, lb rfl⟩ ?_
  refine xt_if_eq 33 dX8_piece_18 rfl (fun q => absurd q (fl1 ⟨Int32.le_trans (show (-1 : Int32) ≤ 0 by decide) (nI_pos' (by omega)), nk_le (by omega) (by omega)⟩)) (fun _ => ?_)
  refine il2 dX8_piece_21 ?_
  refine xt_i2l dX8_piece_22 ?_
  refine xt_lconst (0) dX8_piece_23 rfl ?_
  refine k_X8_49 dX8_piece_24 ?_
  refine s_X8_51 dX8_piece_27 (cn_X8_inI _ (0) (4) rfl rfl) ⟨lb rfl, lb rfl, lb rfl, lb rfl⟩ ?_
  refine xt_if_ne 36 dX8_piece_30 rfl (fun _ => ?_) (fun q => absurd q (fl1 ⟨nI_pos' (by omega), nI_le (b := 4) (by omega) (by decide)⟩))
  refine il1 dX8_piece_36 ?_
  refine xt_if_ge 52 dX8_piece_37 rfl (fun _ => ?_) (fun q => absurd (nI_pos' (by omega)) q)
  refine il1 dX8_piece_52 ?_
  refine xt_if_ge 60 dX8_piece_53 rfl (fun _ => ?_) (fun q => absurd (nI_pos' (by omega)) q)
  refine xt_bipush (13) dX8_piece_60 rfl ?_
  refine xt_iconst (4) dX8_piece_62 rfl ?_
  refine il1 dX8_piece_63 ?_
  refine xt_imul dX8_piece_64 ?_
  refine xt_iadd dX8_piece_65 ?_
  refine is3 dX8_piece_66 (by decide) rfl ?_
  refine il2 dX8_piece_67 ?_
  refine xt_iconst (4) dX8_piece_68 rfl ?_
  refine xt_icmp_ge 83 dX8_piece_69 rfl (fun q => absurd q (nI_ge (a := b) (b := 4) (by omega) (by decide))) (fun _ => ?_)
  refine al0 dX8_piece_72 ?_
  refine g_X8_7 dX8_piece_73 mU_0 ?_
  refine il3 dX8_piece_76 ?_
  refine il2 dX8_piece_77 ?_
  refine xt_iadd dX8_piece_78 ?_
  refine xt_iald (13 + (4) * (j) + b) mU_1 (by omega) (ne_add (a := 13 + (4) * (j)) (b := b) (ne_add (a := 13) (b := (4) * (j)) rfl (ne_mul (a := 4) (b := j) rfl rfl)) rfl) (by decide) dX8_piece_79 ?_
  refine xt_top (congrArg Value.int (jnw (q := 0) (c := 13 + 4 * j + b) (by omega) (by omega))) ?_
  refine xt_goto 100 dX8_piece_80 rfl ?_
  exact xt_iret dX8_piece_100 rfl (lb rfl) (lb rfl) ⟨rfl, rfl, rfl⟩
set_option maxHeartbeats 400000 in
set_option maxRecDepth 100000 in
theorem cn_X8_piece_t {h : ax_H} {n : Nat} {M : Nat} {un iu td aT nu ab be : Int32} {tp mv rd ms mn la : Nat → Int32} {W : Nat → Nat → Int32} {it tk : Nat → Int64} (m : Nat) (hm : W 0 12 = nI m) (hm2 : m ≤ 12) (j : Nat) (hj : j < m) : ax_C yX8_piece cX8_piece 4 (some .int) 5 0 0 [.ref M, .int (nI j), .int (nI 4)] (mU h M un iu td aT nu ab be (jn W) tp mv rd ms mn la it tk) n (ki (sAt (W 0) (13 + 4 * j)) (mU h M un iu td aT nu ab be (jn W) tp mv rd ms mn la it tk) n) := by
  refine ax_C.go RX8 "piece" [some (.ref M), some (.int (nI j)), some (.int (nI 4)), none] rfl rfl pn_X8 (lb rfl) rfl (fun l G cy bs => ?_)
  refine il1 dX8_piece_0 ?_
  refine xt_i2l dX8_piece_1 ?_
  refine k_X8_113 dX8_piece_2 ?_
  refine al0 dX8_piece_5 ?_
  refine g_X8_7 dX8_piece_6 mU_0 ?_
  refine xt_bipush (12) dX8_piece_9 rfl ?_
  refine xt_iald (12) mU_1 (by omega) rfl (by decide) dX8_piece_11 ?_
  refine xt_top (congrArg Value.int (jnw (q := 0) (c := 12) (by omega) (by omega))) ?_
  refine xt_eqv (nI (m)) hm ?_
  refine xt_iconst (1) dX8_piece_12 rfl ?_
  refine xt_isub dX8_piece_13 ?_
  refine xt_i2l dX8_piece_14 ?_
  refine s_X8_51 dX8_piece_15 (cn_X8_inI _ (-1) (nI m - 1) rfl rfl) ⟨lb rfl, lb rfl, lb rfl, lb rfl⟩ ?_
  refine xt_if_eq 33 dX8_piece_18 rfl (fun q => absurd q (fl1 ⟨Int32.le_trans (show (-1 : Int32) ≤ 0 by decide) (nI_pos' (by omega)), nk_le (by omega) (by omega)⟩)) (fun _ => ?_)
  refine il2 dX8_piece_21 ?_
  refine xt_i2l dX8_piece_22 ?_
  refine xt_lconst (0) dX8_piece_23 rfl ?_
  refine k_X8_49 dX8_piece_24 ?_
  refine s_X8_51 dX8_piece_27 (cn_X8_inI _ (0) (4) rfl rfl) ⟨lb rfl, lb rfl, lb rfl, lb rfl⟩ ?_
  refine xt_if_ne 36 dX8_piece_30 rfl (fun _ => ?_) (fun q => absurd q (fl1 ⟨by decide, by decide⟩))
  refine il1 dX8_piece_36 ?_
  refine xt_if_ge 52 dX8_piece_37 rfl (fun _ => ?_) (fun q => absurd (nI_pos' (by omega)) q)
  refine il1 dX8_piece_52 ?_
  refine xt_if_ge 60 dX8_piece_53 rfl (fun _ => ?_) (fun q => absurd (nI_pos' (by omega)) q)
  refine xt_bipush (13) dX8_piece_60 rfl ?_
  refine xt_iconst (4) dX8_piece_62 rfl ?_
  refine il1 dX8_piece_63 ?_
  refine xt_imul dX8_piece_64 ?_
  refine xt_iadd dX8_piece_65 ?_
  refine xt_eqv (nI (61 * 0 + (13 + 4 * j))) ((ne_add (a := 13) (b := (4) * (j)) rfl (ne_mul (a := 4) (b := j) rfl rfl)).trans (congrArg nI (by omega))) ?_
  refine is3 dX8_piece_66 (by decide) rfl ?_
  refine il2 dX8_piece_67 ?_
  refine xt_iconst (4) dX8_piece_68 rfl ?_
  refine xt_icmp_ge 83 dX8_piece_69 rfl (fun _ => ?_) (fun q => absurd (by decide) q)
  refine il1 dX8_piece_83 ?_
  refine xt_if_ge 95 dX8_piece_84 rfl (fun _ => ?_) (fun q => absurd (nI_pos' (by omega)) q)
  refine al0 dX8_piece_95 ?_
  refine il3 dX8_piece_96 ?_
  refine s_X8_77 dX8_piece_97 (by have z := cn_X8_stepsAt (h := h) (n := n) (M := M) (un := un) (iu := iu) (td := td) (aT := aT) (nu := nu) (ab := ab) (be := be) (tp := tp) (mv := mv) (rd := rd) (ms := ms) (mn := mn) (la := la) (it := it) (tk := tk) (W := W) (r := W 0) (q := 0) (13 + 4 * j) (by omega) (by omega); rw [up_id] at z; exact z) mU_0 ⟨lb rfl, lb rfl, lb rfl, lb rfl⟩ ?_
  exact xt_iret dX8_piece_100 rfl (lb rfl) (lb rfl) ⟨rfl, rfl, rfl⟩
