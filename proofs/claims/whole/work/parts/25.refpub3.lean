/-- what is left of the row when i pieces were looked at, and how many that are -/
def pgS (kd : Int32) (r : Nat → Int32) : Nat → (Nat → Int32) × Nat
  | 0 => (r, 0)
  | i + 1 => if (pgS kd r i).1 (13 + 4 * i) = kd then pgS kd r i else (lay (pgS kd r i).1 (13 + 4 * (pgS kd r i).2) ((pgS kd r i).1 (13 + 4 * i)) ((pgS kd r i).1 (13 + 4 * i + 1)) ((pgS kd r i).1 (13 + 4 * i + 2)) ((pgS kd r i).1 (13 + 4 * i + 3)), (pgS kd r i).2 + 1)
theorem pgS_y {kd : Int32} {r : Nat → Int32} {i : Nat} {r1 : Nat → Int32} {c : Nat} (h : (r1, c) = pgS kd r i) (e : r1 (13 + 4 * i) = kd) : (r1, c) = pgS kd r (i + 1) := by
  show _ = (if (pgS kd r i).1 (13 + 4 * i) = kd then _ else _)
  rw [← h, if_pos e]
theorem pgS_n {kd : Int32} {r : Nat → Int32} {i : Nat} {r1 : Nat → Int32} {c : Nat} (h : (r1, c) = pgS kd r i) (e : ¬ r1 (13 + 4 * i) = kd) : (lay r1 (13 + 4 * c) (r1 (13 + 4 * i)) (r1 (13 + 4 * i + 1)) (r1 (13 + 4 * i + 2)) (r1 (13 + 4 * i + 3)), c + 1) = pgS kd r (i + 1) := by
  show _ = (if (pgS kd r i).1 (13 + 4 * i) = kd then _ else _)
  rw [← h, if_neg e]
theorem pgS_le (kd : Int32) (r : Nat → Int32) : ∀ i, (pgS kd r i).2 ≤ i
  | 0 => Nat.le_refl _
  | i + 1 => by
    show (if (pgS kd r i).1 (13 + 4 * i) = kd then pgS kd r i else _).2 ≤ _
    have ih := pgS_le kd r i
    split
    · omega
    · simp only; omega
theorem pgS_12 (kd : Int32) (r : Nat → Int32) {j : Nat} (hj : j < 13) : ∀ i, (pgS kd r i).1 j = r j
  | 0 => rfl
  | i + 1 => by
    show (if (pgS kd r i).1 (13 + 4 * i) = kd then pgS kd r i else _).1 j = _
    have ih := pgS_12 kd r hj i
    split
    · exact ih
    · simp only; rw [lay_lo (by omega)]; exact ih
def purgeR (kd : Int32) (r : Nat → Int32) (m : Nat) : Nat → Int32 := upd (pgS kd r m).1 12 (nI (pgS kd r m).2)
set_option maxHeartbeats 400000 in
set_option maxRecDepth 100000 in
theorem cn_X8_purge_b {h : ax_H} {n : Nat} {M : Nat} {un iu td aT nu ab be : Int32} {tp mv rd ms mn la : Nat → Int32} {W : Nat → Nat → Int32} {it tk : Nat → Int64} (x : Int32) (hx : ¬ (0 ≤ x ∧ x ≤ 4)) : ax_C yX8_purge cX8_purge 5 (some .int) 2 0 0 [.ref M, .int x] (mU h M un iu td aT nu ab be (jn W) tp mv rd ms mn la it tk) n (ki ((-1000001)) (mU h M un iu td aT nu ab be (jn W) tp mv rd ms mn la it tk) n) := by
  refine ax_C.go RX8 "purge" [some (.ref M), some (.int x), none, none, none] rfl rfl pn_X8 (lb rfl) rfl (fun l G cy bs => ?_)
  refine il1 dX8_purge_0 ?_
  refine xt_i2l dX8_purge_1 ?_
  refine xt_lconst (0) dX8_purge_2 rfl ?_
  refine k_X8_49 dX8_purge_3 ?_
  refine s_X8_51 dX8_purge_6 (cn_X8_inI _ (0) (4) rfl rfl) ⟨lb rfl, lb rfl, lb rfl, lb rfl⟩ ?_
  refine xt_if_ne 15 dX8_purge_9 rfl (fun q => absurd (fl0 hx) q) (fun _ => ?_)
  refine k_X8_112 dX8_purge_12 ?_
  exact xt_iret dX8_purge_14 rfl (lb rfl) (lb rfl) ⟨rfl, rfl, rfl⟩
set_option maxHeartbeats 400000 in
set_option maxRecDepth 100000 in
theorem cn_X8_purge_n {h : ax_H} {n : Nat} {M : Nat} {un iu td aT nu ab be : Int32} {tp mv rd ms mn la : Nat → Int32} {W : Nat → Nat → Int32} {it tk : Nat → Int64} (m : Nat) (hm : W 0 12 = nI m) (hm2 : m ≤ 12) (x : Int32) (hx : 0 ≤ x ∧ x ≤ 4) (hk : (kdS (W 0) m >>> (x &&& 31)) &&& 1 = 0) : ax_C yX8_purge cX8_purge 5 (some .int) 2 0 0 [.ref M, .int x] (mU h M un iu td aT nu ab be (jn W) tp mv rd ms mn la it tk) n (ki ((-1000002)) (mU h M un iu td aT nu ab be (jn W) tp mv rd ms mn la it tk) n) := by
  refine ax_C.go RX8 "purge" [some (.ref M), some (.int x), none, none, none] rfl rfl pn_X8 (lb rfl) rfl (fun l G cy bs => ?_)
  refine il1 dX8_purge_0 ?_
  refine xt_i2l dX8_purge_1 ?_
  refine xt_lconst (0) dX8_purge_2 rfl ?_
  refine k_X8_49 dX8_purge_3 ?_
  refine s_X8_51 dX8_purge_6 (cn_X8_inI _ (0) (4) rfl rfl) ⟨lb rfl, lb rfl, lb rfl, lb rfl⟩ ?_
  refine xt_if_ne 15 dX8_purge_9 rfl (fun _ => ?_) (fun q => absurd q (fl1 hx))
  refine al0 dX8_purge_15 ?_
  refine s_X8_119 dX8_purge_16 (cn_X8_kinds _ hm hm2) mU_0 ⟨lb rfl, lb rfl, lb rfl, lb rfl⟩ ?_
  refine il1 dX8_purge_19 ?_
  refine xt_ishr dX8_purge_20 ?_
  refine xt_iconst (1) dX8_purge_21 rfl ?_
  refine xt_iand dX8_purge_22 ?_
  refine xt_if_ne 29 dX8_purge_23 rfl (fun q => absurd hk q) (fun _ => ?_)
  refine k_X8_172 dX8_purge_26 ?_
  exact xt_iret dX8_purge_28 rfl (lb rfl) (lb rfl) ⟨rfl, rfl, rfl⟩
set_option maxHeartbeats 400000 in
set_option maxRecDepth 100000 in
theorem cn_X8_purge {h : ax_H} {n : Nat} {M : Nat} {iu td aT nu ab be : Int32} {tp mv rd ms mn la : Nat → Int32} {W : Nat → Nat → Int32} {it tk : Nat → Int64} (u : Nat) (hu : u ≤ 6) (m : Nat) (hm : W 0 12 = nI m) (hm2 : m ≤ 12) (x : Int32) (hx : 0 ≤ x ∧ x ≤ 4) (hk : ¬ (kdS (W 0) m >>> (x &&& 31)) &&& 1 = 0) : ax_C yX8_purge cX8_purge 5 (some .int) 2 0 0 [.ref M, .int x] (mU h M (nI u) iu td aT nu ab be (jn W) tp mv rd ms mn la it tk) n (ki (nI (m - (pgS x (W 0) m).2)) (mU h M (nI (mdU u)) iu td aT nu ab be (jn (va_up (mdW W u) 0 (purgeR x (W 0) m))) tp mv rd ms mn la it tk) n) := by
  refine ax_C.go RX8 "purge" [some (.ref M), some (.int x), none, none, none] rfl rfl pn_X8 (lb rfl) rfl (fun l G cy bs => ?_)
  have lp : ∀ (d i : Nat), i + d = m → ∀ (r1 : Nat → Int32) (c : Nat), (r1, c) = pgS x (W 0) i → ∀ A : Option Value, ax_T l G cy bs (ax_rm 2 0 0) RX8 "purge" cX8_purge 5 (some .int) (ki (nI (m - (pgS x (W 0) m).2)) (mU h M (nI (mdU u)) iu td aT nu ab be (jn (va_up (mdW W u) 0 (purgeR x (W 0) m))) tp mv rd ms mn la it tk) n) 0 0 37 [some (.ref M), some (.int x), some (.int (nI c)), some (.int (nI i)), A] [] (mU h M (nI (mdU u)) iu td aT nu ab be (jn (va_up (mdW W u) 0 r1)) tp mv rd ms mn la it tk) n 0 0 := by
    intro d
    induction d with
    | zero =>
      intro i hi r1 c hs A
      have hc : c ≤ i := by have z := pgS_le x (W 0) i; rw [← hs] at z; exact z
      have h12 : r1 12 = nI m := by have z := pgS_12 x (W 0) (j := 12) (by omega) i; rw [← hs] at z; exact z.trans hm
      obtain rfl : i = m := by omega
      refine il3 dX8_purge_37 ?_
      refine al0 dX8_purge_38 ?_
      refine g_X8_7 dX8_purge_39 mU_0 ?_
      refine xt_bipush (12) dX8_purge_42 rfl ?_
      refine xt_iald (12) mU_1 (by omega) rfl (by decide) dX8_purge_44 ?_
      refine xt_top (congrArg Value.int (jnr (c := 12) (by omega) (by omega))) ?_
      refine xt_eqv (nI (i)) h12 ?_
      refine xt_icmp_ge 120 dX8_purge_45 rfl (fun _ => ?_) (fun q => absurd (nI_le (Nat.le_refl _) (by omega)) q)
      refine al0 dX8_purge_120 ?_
      refine g_X8_7 dX8_purge_121 mU_0 ?_
      refine xt_bipush (12) dX8_purge_124 rfl ?_
      refine xt_iald (12) mU_1 (by omega) rfl (by decide) dX8_purge_126 ?_
      refine xt_top (congrArg Value.int (jnr (c := 12) (by omega) (by omega))) ?_
      refine xt_eqv (nI (i)) h12 ?_
      refine il2 dX8_purge_127 ?_
      refine xt_isub dX8_purge_128 ?_
      refine xt_eqv (nI (i - c)) ((ne_sub (a := i) (b := c) rfl rfl (by omega)).trans (congrArg nI (by omega))) ?_
      refine is3 dX8_purge_129 (by decide) rfl ?_
      refine al0 dX8_purge_130 ?_
      refine g_X8_7 dX8_purge_131 mU_0 ?_
      refine xt_bipush (12) dX8_purge_134 rfl ?_
      refine il2 dX8_purge_136 ?_
      refine xt_iast (12) mU_1 (by omega) rfl (by decide) dX8_purge_137 ?_
      refine xt_heq (mU_pr (c := 12) (by omega) (by omega)) ?_
      refine il3 dX8_purge_138 ?_
      exact xt_iret dX8_purge_139 rfl (lb rfl) (lb rfl) ⟨by rw [← hs], by unfold purgeR; rw [← hs], rfl⟩
    | succ d ih =>
      intro i hi r1 c hs A
      have hc : c ≤ i := by have z := pgS_le x (W 0) i; rw [← hs] at z; exact z
      have h12 : r1 12 = nI m := by have z := pgS_12 x (W 0) (j := 12) (by omega) i; rw [← hs] at z; exact z.trans hm
      refine il3 dX8_purge_37 ?_
      refine al0 dX8_purge_38 ?_
      refine g_X8_7 dX8_purge_39 mU_0 ?_
      refine xt_bipush (12) dX8_purge_42 rfl ?_
      refine xt_iald (12) mU_1 (by omega) rfl (by decide) dX8_purge_44 ?_
      refine xt_top (congrArg Value.int (jnr (c := 12) (by omega) (by omega))) ?_
      refine xt_eqv (nI (m)) h12 ?_
      refine xt_icmp_ge 120 dX8_purge_45 rfl (fun q => absurd q (nI_ge (by omega) (by omega))) (fun _ => ?_)
      refine xt_bipush (13) dX8_purge_48 rfl ?_
      refine xt_iconst (4) dX8_purge_50 rfl ?_
      refine il3 dX8_purge_51 ?_
      refine xt_imul dX8_purge_52 ?_
      refine xt_iadd dX8_purge_53 ?_
      refine xt_eqv (nI (13 + 4 * i)) ((ne_add (a := 13) (b := (4) * (i)) rfl (ne_mul (a := 4) (b := i) rfl rfl)).trans (congrArg nI (by omega))) ?_
      refine is4 dX8_purge_54 (by decide) rfl ?_
      refine al0 dX8_purge_56 ?_
      refine g_X8_7 dX8_purge_57 mU_0 ?_
      refine il4 dX8_purge_60 ?_
      refine xt_iald (13 + 4 * i) mU_1 (by omega) rfl (by decide) dX8_purge_62 ?_
      refine xt_top (congrArg Value.int (jnr (c := 13 + 4 * i) (by omega) (by omega))) ?_
      refine il1 dX8_purge_63 ?_
      refine xt_icmp_eq 114 dX8_purge_64 rfl (fun c64 => ?_) (fun c64 => ?_)
      · refine inc3 (nI (i + 1)) dX8_purge_114 (nI_1 _) (by decide) rfl ?_
        refine xt_goto 37 dX8_purge_117 rfl ?_
        exact ih (i + 1) (by omega) _ _ (pgS_y hs c64) _
      · refine al0 dX8_purge_67 ?_
        refine xt_bipush (13) dX8_purge_68 rfl ?_
        refine xt_iconst (4) dX8_purge_70 rfl ?_
        refine il2 dX8_purge_71 ?_
        refine xt_imul dX8_purge_72 ?_
        refine xt_iadd dX8_purge_73 ?_
        refine xt_eqv (nI (61 * 0 + (13 + 4 * c))) ((ne_add (a := 13) (b := (4) * (c)) rfl (ne_mul (a := 4) (b := c) rfl rfl)).trans (congrArg nI (by omega))) ?_
        refine al0 dX8_purge_74 ?_
        refine g_X8_7 dX8_purge_75 mU_0 ?_
        refine il4 dX8_purge_78 ?_
        refine xt_iald (13 + 4 * i) mU_1 (by omega) rfl (by decide) dX8_purge_80 ?_
        refine xt_top (congrArg Value.int (jnr (c := 13 + 4 * i) (by omega) (by omega))) ?_
        refine al0 dX8_purge_81 ?_
        refine g_X8_7 dX8_purge_82 mU_0 ?_
        refine il4 dX8_purge_85 ?_
        refine xt_iconst (1) dX8_purge_87 rfl ?_
        refine xt_iadd dX8_purge_88 ?_
        refine xt_iald (13 + 4 * i + 1) mU_1 (by omega) (ne_add (a := 13 + 4 * i) (b := 1) rfl rfl) (by decide) dX8_purge_89 ?_
        refine xt_top (congrArg Value.int (jnr (c := 13 + 4 * i + 1) (by omega) (by omega))) ?_
        refine al0 dX8_purge_90 ?_
        refine g_X8_7 dX8_purge_91 mU_0 ?_
        refine il4 dX8_purge_94 ?_
        refine xt_iconst (2) dX8_purge_96 rfl ?_
        refine xt_iadd dX8_purge_97 ?_
        refine xt_iald (13 + 4 * i + 2) mU_1 (by omega) (ne_add (a := 13 + 4 * i) (b := 2) rfl rfl) (by decide) dX8_purge_98 ?_
        refine xt_top (congrArg Value.int (jnr (c := 13 + 4 * i + 2) (by omega) (by omega))) ?_
        refine al0 dX8_purge_99 ?_
        refine g_X8_7 dX8_purge_100 mU_0 ?_
        refine il4 dX8_purge_103 ?_
        refine xt_iconst (3) dX8_purge_105 rfl ?_
        refine xt_iadd dX8_purge_106 ?_
        refine xt_iald (13 + 4 * i + 3) mU_1 (by omega) (ne_add (a := 13 + 4 * i) (b := 3) rfl rfl) (by decide) dX8_purge_107 ?_
        refine xt_top (congrArg Value.int (jnr (c := 13 + 4 * i + 3) (by omega) (by omega))) ?_
        refine s_X8_168 dX8_purge_108 (cn_X8_lays ((13 + 4 * c)) (by omega) (by omega) _ _ _ _) mU_0 ⟨lb rfl, lb rfl, lb rfl, lb rfl⟩ ?_
        refine inc2 (nI (c + 1)) dX8_purge_111 (nI_1 _) (by decide) rfl ?_
        refine inc3 (nI (i + 1)) dX8_purge_114 (nI_1 _) (by decide) rfl ?_
        refine xt_goto 37 dX8_purge_117 rfl ?_
        exact ih (i + 1) (by omega) _ _ (pgS_n hs c64) _
  refine il1 dX8_purge_0 ?_
  refine xt_i2l dX8_purge_1 ?_
  refine xt_lconst (0) dX8_purge_2 rfl ?_
  refine k_X8_49 dX8_purge_3 ?_
  refine s_X8_51 dX8_purge_6 (cn_X8_inI _ (0) (4) rfl rfl) ⟨lb rfl, lb rfl, lb rfl, lb rfl⟩ ?_
  refine xt_if_ne 15 dX8_purge_9 rfl (fun _ => ?_) (fun q => absurd q (fl1 hx))
  refine al0 dX8_purge_15 ?_
  refine s_X8_119 dX8_purge_16 (cn_X8_kinds _ hm hm2) mU_0 ⟨lb rfl, lb rfl, lb rfl, lb rfl⟩ ?_
  refine il1 dX8_purge_19 ?_
  refine xt_ishr dX8_purge_20 ?_
  refine xt_iconst (1) dX8_purge_21 rfl ?_
  refine xt_iand dX8_purge_22 ?_
  refine xt_if_ne 29 dX8_purge_23 rfl (fun _ => ?_) (fun q => absurd q hk)
  refine al0 dX8_purge_29 ?_
  refine s_X8_165 dX8_purge_30 (cn_X8_minds u hu) mU_0 ⟨lb rfl, lb rfl, lb rfl, lb rfl⟩ ?_
  refine xt_heq (congrArg (fun z => (mU h M (nI (mdU u)) iu td aT nu ab be (jn z) tp mv rd ms mn la it tk)) (mdW_row W u)) ?_
  refine xt_iconst (0) dX8_purge_33 rfl ?_
  refine is2 dX8_purge_34 (by decide) rfl ?_
  refine xt_iconst (0) dX8_purge_35 rfl ?_
  refine is3 dX8_purge_36 (by decide) rfl ?_
  exact lp m 0 (by omega) _ 0 rfl _
def imR (w : Nat → Int32) : Nat → Nat → Int32
  | 0 => w
  | k + 1 => upd (imR w k) (549 + k) (imR w k (122 + k))
theorem imR_s (w : Nat → Int32) (k : Nat) : imR w (k + 1) = upd (imR w k) (549 + k) (imR w k (122 + k)) := rfl
theorem imR_eq (w : Nat → Int32) : ∀ k, k ≤ 366 → imR w k = fun j => if 549 ≤ j ∧ j < 549 + k then w (122 + (j - 549)) else w j
  | 0, _ => by funext j; simp only [imR]; rw [if_neg (by omega)]
  | k + 1, hk => by
    have ih := imR_eq w k (by omega)
    funext j
    simp only [imR, ih, upd]
    by_cases hj : j = 549 + k
    · subst hj
      rw [if_pos rfl, if_neg (by omega), if_pos (by omega)]
      rw [Nat.add_sub_cancel_left]
    · rw [if_neg hj]
      by_cases h2 : 549 ≤ j ∧ j < 549 + k
      · rw [if_pos h2, if_pos (by omega)]
      · rw [if_neg h2, if_neg (by omega)]
def imW (W : Nat → Nat → Int32) : Nat → Nat → Int32 := fun q => if 9 ≤ q ∧ q < 15 then W (2 + (q - 9)) else W q
theorem imR_row (W : Nat → Nat → Int32) : imR (jn W) 366 = jn (imW W) := by
  rw [imR_eq _ _ (Nat.le_refl _)]
  funext j
  by_cases h1 : 9 ≤ j / 61 ∧ j / 61 < 15
  · rw [if_pos (by omega)]
    have e1 : (122 + (j - 549)) / 61 = 2 + (j / 61 - 9) := by omega
    have e2 : (122 + (j - 549)) % 61 = j % 61 := by omega
    simp only [jn, imW, e1, e2, if_pos h1]
  · rw [if_neg (by omega)]
    simp only [jn, imW, if_neg h1]
def rsR (w : Nat → Int32) : Nat → Nat → Int32
  | 0 => w
  | k + 1 => upd (rsR w k) (122 + k) (rsR w k (549 + k))
theorem rsR_s (w : Nat → Int32) (k : Nat) : rsR w (k + 1) = upd (rsR w k) (122 + k) (rsR w k (549 + k)) := rfl
theorem rsR_eq (w : Nat → Int32) : ∀ k, k ≤ 366 → rsR w k = fun j => if 122 ≤ j ∧ j < 122 + k then w (549 + (j - 122)) else w j
  | 0, _ => by funext j; simp only [rsR]; rw [if_neg (by omega)]
  | k + 1, hk => by
    have ih := rsR_eq w k (by omega)
    funext j
    simp only [rsR, ih, upd]
    by_cases hj : j = 122 + k
    · subst hj
      rw [if_pos rfl, if_neg (by omega), if_pos (by omega)]
      rw [Nat.add_sub_cancel_left]
    · rw [if_neg hj]
      by_cases h2 : 122 ≤ j ∧ j < 122 + k
      · rw [if_pos h2, if_pos (by omega)]
      · rw [if_neg h2, if_neg (by omega)]
def rsW (W : Nat → Nat → Int32) : Nat → Nat → Int32 := fun q => if 2 ≤ q ∧ q < 8 then W (9 + (q - 2)) else W q
theorem rsR_row (W : Nat → Nat → Int32) : rsR (jn W) 366 = jn (rsW W) := by
  rw [rsR_eq _ _ (Nat.le_refl _)]
  funext j
  by_cases h1 : 2 ≤ j / 61 ∧ j / 61 < 8
  · rw [if_pos (by omega)]
    have e1 : (549 + (j - 122)) / 61 = 9 + (j / 61 - 2) := by omega
    have e2 : (549 + (j - 122)) % 61 = j % 61 := by omega
    simp only [jn, rsW, e1, e2, if_pos h1]
  · rw [if_neg (by omega)]
    simp only [jn, rsW, if_neg h1]
set_option maxHeartbeats 400000 in
set_option maxRecDepth 100000 in
theorem cn_X8_image {h : ax_H} {n : Nat} {M : Nat} {un iu td aT nu ab be : Int32} {tp mv rd ms mn la : Nat → Int32} {W : Nat → Nat → Int32} {it tk : Nat → Int64}  : ax_C yX8_image cX8_image 2 (some .int) 1 0 0 [.ref M] (mU h M un iu td aT nu ab be (jn W) tp mv rd ms mn la it tk) n (ki 1 (mU h M un (un) td aT nu ab be (jn (imW (va_up W 8 (W 0)))) tp mv rd ms mn la it tk) n) := by
  refine ax_C.go RX8 "image" [some (.ref M), none] rfl rfl pn_X8 (lb rfl) rfl (fun l G cy bs => ?_)
  have lp : ∀ (d k : Nat), k + d = 366 → ∀ w1 : Nat → Int32, w1 = imR (jn (va_up W 8 (W 0))) k → ax_T l G cy bs (ax_rm 1 0 0) RX8 "image" cX8_image 2 (some .int) (ki 1 (mU h M un (un) td aT nu ab be (jn (imW (va_up W 8 (W 0)))) tp mv rd ms mn la it tk) n) 0 0 10 [some (.ref M), some (.int (nI k))] [] (mU h M un iu td aT nu ab be (w1) tp mv rd ms mn la it tk) n 0 0 := by
    intro d
    induction d with
    | zero =>
      intro k hk w1 hw1
      obtain rfl : k = 366 := by omega
      rw [imR_row] at hw1
      subst hw1
      refine il1 dX8_image_10 ?_
      refine xt_sipush (366) dX8_image_11 rfl ?_
      refine xt_icmp_ge 42 dX8_image_14 rfl (fun _ => ?_) (fun q => absurd (by decide) q)
      refine al0 dX8_image_42 ?_
      refine al0 dX8_image_43 ?_
      refine g_X8_42 dX8_image_44 mU_0 ?_
      refine p_X8_13 dX8_image_47 mU_0 ?_
      refine xt_heq mU_p0 ?_
      refine xt_iconst (1) dX8_image_50 rfl ?_
      exact xt_iret dX8_image_51 rfl (lb rfl) (lb rfl) ⟨rfl, rfl, rfl⟩
    | succ d ih =>
      intro k hk w1 hw1
      refine il1 dX8_image_10 ?_
      refine xt_sipush (366) dX8_image_11 rfl ?_
      refine xt_icmp_ge 42 dX8_image_14 rfl (fun q => absurd q (nI_ge (a := k) (b := 366) (by omega) (by decide))) (fun _ => ?_)
      refine al0 dX8_image_17 ?_
      refine g_X8_7 dX8_image_18 mU_0 ?_
      refine xt_sipush (549) dX8_image_21 rfl ?_
      refine il1 dX8_image_24 ?_
      refine xt_iadd dX8_image_25 ?_
      refine al0 dX8_image_26 ?_
      refine g_X8_7 dX8_image_27 mU_0 ?_
      refine xt_bipush (122) dX8_image_30 rfl ?_
      refine il1 dX8_image_32 ?_
      refine xt_iadd dX8_image_33 ?_
      refine xt_iald (122 + k) mU_1 (by omega) (ne_add (a := 122) (b := k) rfl rfl) (by decide) dX8_image_34 ?_
      refine xt_iast (549 + k) mU_1 (by omega) (ne_add (a := 549) (b := k) rfl rfl) (by decide) dX8_image_35 ?_
      refine xt_heq mU_p1 ?_
      refine inc1 (nI (k + 1)) dX8_image_36 (nI_1 _) (by decide) rfl ?_
      refine xt_goto 10 dX8_image_39 rfl ?_
      exact ih (k + 1) (by omega) _ (by rw [imR_s, ← hw1])
  refine al0 dX8_image_0 ?_
  refine xt_iconst (0) dX8_image_1 rfl ?_
  refine xt_sipush (488) dX8_image_2 rfl ?_
  refine s_X8_45 dX8_image_5 (cn_X8_copyRow 0 (8) (by omega) (by omega) (by omega)) mU_0 ⟨lb rfl, lb rfl, lb rfl, lb rfl⟩ ?_
  refine xt_iconst (0) dX8_image_8 rfl ?_
  refine is1 dX8_image_9 (by decide) rfl ?_
  exact lp 366 0 rfl _ rfl
set_option maxHeartbeats 400000 in
set_option maxRecDepth 100000 in
theorem cn_X8_restore {h : ax_H} {n : Nat} {M : Nat} {un iu td aT nu ab be : Int32} {tp mv rd ms mn la : Nat → Int32} {W : Nat → Nat → Int32} {it tk : Nat → Int64} (hi : 0 ≤ iu) : ax_C yX8_restore cX8_restore 2 (some .int) 1 0 0 [.ref M] (mU h M un iu td aT nu ab be (jn W) tp mv rd ms mn la it tk) n (ki 1 (mU h M (iu) iu td aT nu ab be (jn (rsW (va_up W 0 (W 8)))) tp mv rd ms mn la it tk) n) := by
  refine ax_C.go RX8 "restore" [some (.ref M), none] rfl rfl pn_X8 (lb rfl) rfl (fun l G cy bs => ?_)
  have lp : ∀ (d k : Nat), k + d = 366 → ∀ w1 : Nat → Int32, w1 = rsR (jn (va_up W 0 (W 8))) k → ax_T l G cy bs (ax_rm 1 0 0) RX8 "restore" cX8_restore 2 (some .int) (ki 1 (mU h M (iu) iu td aT nu ab be (jn (rsW (va_up W 0 (W 8)))) tp mv rd ms mn la it tk) n) 0 0 20 [some (.ref M), some (.int (nI k))] [] (mU h M un iu td aT nu ab be (w1) tp mv rd ms mn la it tk) n 0 0 := by
    intro d
    induction d with
    | zero =>
      intro k hk w1 hw1
      obtain rfl : k = 366 := by omega
      rw [rsR_row] at hw1
      subst hw1
      refine il1 dX8_restore_20 ?_
      refine xt_sipush (366) dX8_restore_21 rfl ?_
      refine xt_icmp_ge 52 dX8_restore_24 rfl (fun _ => ?_) (fun q => absurd (by decide) q)
      refine al0 dX8_restore_52 ?_
      refine al0 dX8_restore_53 ?_
      refine g_X8_13 dX8_restore_54 mU_0 ?_
      refine p_X8_42 dX8_restore_57 mU_0 ?_
      refine xt_heq mU_p0 ?_
      refine xt_iconst (1) dX8_restore_60 rfl ?_
      exact xt_iret dX8_restore_61 rfl (lb rfl) (lb rfl) ⟨rfl, rfl, rfl⟩
    | succ d ih =>
      intro k hk w1 hw1
      refine il1 dX8_restore_20 ?_
      refine xt_sipush (366) dX8_restore_21 rfl ?_
      refine xt_icmp_ge 52 dX8_restore_24 rfl (fun q => absurd q (nI_ge (a := k) (b := 366) (by omega) (by decide))) (fun _ => ?_)
      refine al0 dX8_restore_27 ?_
      refine g_X8_7 dX8_restore_28 mU_0 ?_
      refine xt_bipush (122) dX8_restore_31 rfl ?_
      refine il1 dX8_restore_33 ?_
      refine xt_iadd dX8_restore_34 ?_
      refine al0 dX8_restore_35 ?_
      refine g_X8_7 dX8_restore_36 mU_0 ?_
      refine xt_sipush (549) dX8_restore_39 rfl ?_
      refine il1 dX8_restore_42 ?_
      refine xt_iadd dX8_restore_43 ?_
      refine xt_iald (549 + k) mU_1 (by omega) (ne_add (a := 549) (b := k) rfl rfl) (by decide) dX8_restore_44 ?_
      refine xt_iast (122 + k) mU_1 (by omega) (ne_add (a := 122) (b := k) rfl rfl) (by decide) dX8_restore_45 ?_
      refine xt_heq mU_p1 ?_
      refine inc1 (nI (k + 1)) dX8_restore_46 (nI_1 _) (by decide) rfl ?_
      refine xt_goto 20 dX8_restore_49 rfl ?_
      exact ih (k + 1) (by omega) _ (by rw [rsR_s, ← hw1])
  refine al0 dX8_restore_0 ?_
  refine g_X8_13 dX8_restore_1 mU_0 ?_
  refine xt_if_ge 10 dX8_restore_4 rfl (fun _ => ?_) (fun q => absurd hi q)
  refine al0 dX8_restore_10 ?_
  refine xt_sipush (488) dX8_restore_11 rfl ?_
  refine xt_iconst (0) dX8_restore_14 rfl ?_
  refine s_X8_45 dX8_restore_15 (cn_X8_copyRow 8 (0) (by omega) (by omega) (by omega)) mU_0 ⟨lb rfl, lb rfl, lb rfl, lb rfl⟩ ?_
  refine xt_iconst (0) dX8_restore_18 rfl ?_
  refine is1 dX8_restore_19 (by decide) rfl ?_
  exact lp 366 0 rfl _ rfl
set_option maxHeartbeats 400000 in
set_option maxRecDepth 100000 in
theorem cn_X8_restore_n {h : ax_H} {n : Nat} {M : Nat} {un iu td aT nu ab be : Int32} {tp mv rd ms mn la : Nat → Int32} {W : Nat → Nat → Int32} {it tk : Nat → Int64} (hi : ¬ 0 ≤ iu) : ax_C yX8_restore cX8_restore 2 (some .int) 1 0 0 [.ref M] (mU h M un iu td aT nu ab be (jn W) tp mv rd ms mn la it tk) n (ki ((-1000004)) (mU h M un iu td aT nu ab be (jn W) tp mv rd ms mn la it tk) n) := by
  refine ax_C.go RX8 "restore" [some (.ref M), none] rfl rfl pn_X8 (lb rfl) rfl (fun l G cy bs => ?_)
  refine al0 dX8_restore_0 ?_
  refine g_X8_13 dX8_restore_1 mU_0 ?_
  refine xt_if_ge 10 dX8_restore_4 rfl (fun q => absurd q hi) (fun _ => ?_)
  refine k_X8_115 dX8_restore_7 ?_
  exact xt_iret dX8_restore_9 rfl (lb rfl) (lb rfl) ⟨rfl, rfl, rfl⟩
def agV (mn la : Nat → Int32) (s : Nat) (lane i z : Int32) : Int32 := if 0 ≤ mn s then (if la s = lane then (if i < 0 then -1000013 else if z < 0 then -1000013 else if lg_cmp (i.toInt64 + z.toInt64) (mn s).toInt64 ≤ 0 then 0 else -1000013) else -1000012) else -1000011
def lowV (lane : Int32) (v : Int64) : Int64 := if lane = 0 then v.toInt32.toInt8.toInt32.toInt64 else if lane = 1 then v.toInt32.toInt16.toInt32.toInt64 else if lane = 2 then v.toInt32.toInt64 else v
set_option maxHeartbeats 400000 in
set_option maxRecDepth 100000 in
theorem cn_X8_low {h : ax_H} {n : Nat} (lane : Int32) (v : Int64)  : ax_C yX8_low cX8_low 3 (some .long) 0 0 0 [.int lane, .long v] h n (kl (lowV lane v) h n) := by
  refine ax_C.go RX8 "low" [some (.int lane), some (.long v), none] rfl rfl pn_X8 (lb rfl) rfl (fun l G cy bs => ?_)
  refine il0 dX8_low_0 ?_
  apply xjL_if_ne 11 dX8_low_1 rfl
  · intro k1
    refine ⟨fun c1 => ?_, fun c1 => ?_⟩
    · refine il0 dX8_low_11 ?_
      refine xt_iconst (1) dX8_low_12 rfl ?_
      apply xjL_icmp_ne 23 dX8_low_13 rfl
      · intro k13
        refine ⟨fun c13 => ?_, fun c13 => ?_⟩
        · refine il0 dX8_low_23 ?_
          refine xt_iconst (2) dX8_low_24 rfl ?_
          apply xjL_icmp_ne 34 dX8_low_25 rfl
          · intro k25
            refine ⟨fun c25 => ?_, fun c25 => ?_⟩
            · refine ll1 dX8_low_34 ?_
              exact xt_jl1 k25 c25
            · refine ll1 dX8_low_28 ?_
              refine xt_l2i dX8_low_29 ?_
              refine xt_i2l dX8_low_30 ?_
              refine xt_goto 35 dX8_low_31 rfl ?_
              exact xt_jl2 k25 c25
          · skip
            exact xt_jl1 k13 c13
        · refine ll1 dX8_low_16 ?_
          refine xt_l2i dX8_low_17 ?_
          refine xt_i2s dX8_low_18 ?_
          refine xt_i2l dX8_low_19 ?_
          refine xt_goto 35 dX8_low_20 rfl ?_
          exact xt_jl2 k13 c13
      · skip
        exact xt_jl1 k1 c1
    · refine ll1 dX8_low_4 ?_
      refine xt_l2i dX8_low_5 ?_
      refine xt_i2b dX8_low_6 ?_
      refine xt_i2l dX8_low_7 ?_
      refine xt_goto 35 dX8_low_8 rfl ?_
      exact xt_jl2 k1 c1
  · skip
    exact xt_lret dX8_low_35 rfl (lb rfl) (lb rfl) ⟨rfl, rfl, rfl⟩
set_option maxHeartbeats 400000 in
set_option maxRecDepth 100000 in
theorem cn_X8_against {h : ax_H} {n : Nat} {M : Nat} {un iu td aT nu ab be : Int32} {w tp mv rd ms mn la : Nat → Int32} {it tk : Nat → Int64} (s : Nat) (hs : s < 4) (lane i z : Int32) : ax_C yX8_against cX8_against 5 (some .int) 0 0 0 [.ref M, .int (nI s), .int lane, .int i, .int z] (mU h M un iu td aT nu ab be w tp mv rd ms mn la it tk) n (ki (agV mn la s lane i z) (mU h M un iu td aT nu ab be w tp mv rd ms mn la it tk) n) := by
  refine ax_C.go RX8 "against" [some (.ref M), some (.int (nI s)), some (.int lane), some (.int i), some (.int z)] rfl rfl pn_X8 (lb rfl) rfl (fun l G cy bs => ?_)
  refine al0 dX8_against_0 ?_
  refine g_X8_29 dX8_against_1 mU_0 ?_
  refine il1 dX8_against_4 ?_
  refine xt_iald (s) mU_6 (by omega) rfl (by decide) dX8_against_5 ?_
  apply xj_if_ge 14 dX8_against_6 rfl
  · intro k6
    refine ⟨fun c6 => ?_, fun c6 => ?_⟩
    · refine al0 dX8_against_14 ?_
      refine g_X8_32 dX8_against_15 mU_0 ?_
      refine il1 dX8_against_18 ?_
      refine xt_iald (s) mU_7 (by omega) rfl (by decide) dX8_against_19 ?_
      refine il2 dX8_against_20 ?_
      apply xj_icmp_eq 29 dX8_against_21 rfl
      · intro k21
        refine ⟨fun c21 => ?_, fun c21 => ?_⟩
        · refine il3 dX8_against_29 ?_
          apply xj_if_lt 55 dX8_against_30 rfl
          · intro k30
            refine ⟨fun c30 => ?_, fun c30 => ?_⟩
            · refine k_X8_202 dX8_against_55 ?_
              refine xt_goto 61 dX8_against_57 rfl ?_
              exact xt_it1 k30 c30
            · refine il4 dX8_against_33 ?_
              apply xj_if_lt 55 dX8_against_35 rfl
              · intro k35
                refine ⟨fun c35 => ?_, fun c35 => ?_⟩
                · refine k_X8_202 dX8_against_55 ?_
                  refine xt_goto 61 dX8_against_57 rfl ?_
                  exact xt_it1 k35 c35
                · refine il3 dX8_against_38 ?_
                  refine xt_i2l dX8_against_39 ?_
                  refine il4 dX8_against_40 ?_
                  refine xt_i2l dX8_against_42 ?_
                  refine xt_ladd dX8_against_43 ?_
                  refine al0 dX8_against_44 ?_
                  refine g_X8_29 dX8_against_45 mU_0 ?_
                  refine il1 dX8_against_48 ?_
                  refine xt_iald (s) mU_6 (by omega) rfl (by decide) dX8_against_49 ?_
                  refine xt_i2l dX8_against_50 ?_
                  refine xt_lcmp dX8_against_51 ?_
                  apply xj_if_le 60 dX8_against_52 rfl
                  · intro k52
                    refine ⟨fun c52 => ?_, fun c52 => ?_⟩
                    · refine xt_iconst (0) dX8_against_60 rfl ?_
                      exact xt_it1 k52 c52
                    · refine k_X8_202 dX8_against_55 ?_
                      refine xt_goto 61 dX8_against_57 rfl ?_
                      exact xt_it2 k52 c52
                  · skip
                    exact xt_it2 k35 c35
              · skip
                exact xt_it2 k30 c30
          · skip
            exact xt_it1 k21 c21
        · refine k_X8_201 dX8_against_24 ?_
          refine xt_goto 61 dX8_against_26 rfl ?_
          exact xt_it2 k21 c21
      · skip
        exact xt_it1 k6 c6
    · refine k_X8_200 dX8_against_9 ?_
      refine xt_goto 61 dX8_against_11 rfl ?_
      exact xt_it2 k6 c6
  · skip
    exact xt_iret dX8_against_61 rfl (lb rfl) (lb rfl) ⟨rfl, rfl, rfl⟩
set_option maxHeartbeats 400000 in
set_option maxRecDepth 100000 in
theorem cn_X8_sheet_b1 {h : ax_H} {n : Nat} {M : Nat} {un iu td aT nu ab be : Int32} {w tp mv rd ms mn la : Nat → Int32} {it tk : Nat → Int64} (x lane z : Int32) (hx : ¬ (0 ≤ x ∧ x ≤ 3)) : ax_C yX8_sheet cX8_sheet 5 (some .int) 2 0 0 [.ref M, .int x, .int lane, .int z] (mU h M un iu td aT nu ab be w tp mv rd ms mn la it tk) n (ki ((-1000001)) (mU h M un iu td aT nu ab be w tp mv rd ms mn la it tk) n) := by
  refine ax_C.go RX8 "sheet" [some (.ref M), some (.int x), some (.int lane), some (.int z), none] rfl rfl pn_X8 (lb rfl) rfl (fun l G cy bs => ?_)
  refine il1 dX8_sheet_0 ?_
  refine s_X8_203 dX8_sheet_1 (cn_X8_isSheet _) ⟨lb rfl, lb rfl, lb rfl, lb rfl⟩ ?_
  refine xt_if_eq 20 dX8_sheet_4 rfl (fun _ => ?_) (fun q => absurd (fl0 hx) q)
  refine k_X8_112 dX8_sheet_20 ?_
  exact xt_iret dX8_sheet_22 rfl (lb rfl) (lb rfl) ⟨rfl, rfl, rfl⟩
set_option maxHeartbeats 400000 in
set_option maxRecDepth 100000 in
theorem cn_X8_sheet_b2 {h : ax_H} {n : Nat} {M : Nat} {un iu td aT nu ab be : Int32} {w tp mv rd ms mn la : Nat → Int32} {it tk : Nat → Int64} (x lane z : Int32) (hx : 0 ≤ x ∧ x ≤ 3) (hl : ¬ (0 ≤ lane ∧ lane ≤ 3)) : ax_C yX8_sheet cX8_sheet 5 (some .int) 2 0 0 [.ref M, .int x, .int lane, .int z] (mU h M un iu td aT nu ab be w tp mv rd ms mn la it tk) n (ki ((-1000001)) (mU h M un iu td aT nu ab be w tp mv rd ms mn la it tk) n) := by
  refine ax_C.go RX8 "sheet" [some (.ref M), some (.int x), some (.int lane), some (.int z), none] rfl rfl pn_X8 (lb rfl) rfl (fun l G cy bs => ?_)
  refine il1 dX8_sheet_0 ?_
  refine s_X8_203 dX8_sheet_1 (cn_X8_isSheet _) ⟨lb rfl, lb rfl, lb rfl, lb rfl⟩ ?_
  refine xt_if_eq 20 dX8_sheet_4 rfl (fun q => absurd q (fl1 hx)) (fun _ => ?_)
  refine il2 dX8_sheet_7 ?_
  refine s_X8_206 dX8_sheet_8 (cn_X8_isLane _) ⟨lb rfl, lb rfl, lb rfl, lb rfl⟩ ?_
  refine xt_if_eq 20 dX8_sheet_11 rfl (fun _ => ?_) (fun q => absurd (fl0 hl) q)
  refine k_X8_112 dX8_sheet_20 ?_
  exact xt_iret dX8_sheet_22 rfl (lb rfl) (lb rfl) ⟨rfl, rfl, rfl⟩
set_option maxHeartbeats 400000 in
set_option maxRecDepth 100000 in
theorem cn_X8_sheet_b3 {h : ax_H} {n : Nat} {M : Nat} {un iu td aT nu ab be : Int32} {w tp mv rd ms mn la : Nat → Int32} {it tk : Nat → Int64} (x lane z : Int32) (hx : 0 ≤ x ∧ x ≤ 3) (hl : 0 ≤ lane ∧ lane ≤ 3) (hz : ¬ z ≤ 24) : ax_C yX8_sheet cX8_sheet 5 (some .int) 2 0 0 [.ref M, .int x, .int lane, .int z] (mU h M un iu td aT nu ab be w tp mv rd ms mn la it tk) n (ki ((-1000001)) (mU h M un iu td aT nu ab be w tp mv rd ms mn la it tk) n) := by
  refine ax_C.go RX8 "sheet" [some (.ref M), some (.int x), some (.int lane), some (.int z), none] rfl rfl pn_X8 (lb rfl) rfl (fun l G cy bs => ?_)
  refine il1 dX8_sheet_0 ?_
  refine s_X8_203 dX8_sheet_1 (cn_X8_isSheet _) ⟨lb rfl, lb rfl, lb rfl, lb rfl⟩ ?_
  refine xt_if_eq 20 dX8_sheet_4 rfl (fun q => absurd q (fl1 hx)) (fun _ => ?_)
  refine il2 dX8_sheet_7 ?_
  refine s_X8_206 dX8_sheet_8 (cn_X8_isLane _) ⟨lb rfl, lb rfl, lb rfl, lb rfl⟩ ?_
  refine xt_if_eq 20 dX8_sheet_11 rfl (fun q => absurd q (fl1 hl)) (fun _ => ?_)
  refine il3 dX8_sheet_14 ?_
  refine xt_bipush (24) dX8_sheet_15 rfl ?_
  refine xt_icmp_le 23 dX8_sheet_17 rfl (fun q => absurd q hz) (fun _ => ?_)
  refine k_X8_112 dX8_sheet_20 ?_
  exact xt_iret dX8_sheet_22 rfl (lb rfl) (lb rfl) ⟨rfl, rfl, rfl⟩
set_option maxHeartbeats 400000 in
set_option maxRecDepth 100000 in
theorem cn_X8_sheet_s {h : ax_H} {n : Nat} {M : Nat} {un iu td aT nu ab be : Int32} {w tp mv rd ms mn la : Nat → Int32} {it tk : Nat → Int64} (x lane z : Int32) (hx : 0 ≤ x ∧ x ≤ 3) (hl : 0 ≤ lane ∧ lane ≤ 3) (hz : z ≤ 24) (hz2 : ¬ 0 ≤ z) : ax_C yX8_sheet cX8_sheet 5 (some .int) 2 0 0 [.ref M, .int x, .int lane, .int z] (mU h M un iu td aT nu ab be w tp mv rd ms mn la it tk) n (ki ((-1000014)) (mU h M un iu td aT nu ab be w tp mv rd ms mn la it tk) n) := by
  refine ax_C.go RX8 "sheet" [some (.ref M), some (.int x), some (.int lane), some (.int z), none] rfl rfl pn_X8 (lb rfl) rfl (fun l G cy bs => ?_)
  refine il1 dX8_sheet_0 ?_
  refine s_X8_203 dX8_sheet_1 (cn_X8_isSheet _) ⟨lb rfl, lb rfl, lb rfl, lb rfl⟩ ?_
  refine xt_if_eq 20 dX8_sheet_4 rfl (fun q => absurd q (fl1 hx)) (fun _ => ?_)
  refine il2 dX8_sheet_7 ?_
  refine s_X8_206 dX8_sheet_8 (cn_X8_isLane _) ⟨lb rfl, lb rfl, lb rfl, lb rfl⟩ ?_
  refine xt_if_eq 20 dX8_sheet_11 rfl (fun q => absurd q (fl1 hl)) (fun _ => ?_)
  refine il3 dX8_sheet_14 ?_
  refine xt_bipush (24) dX8_sheet_15 rfl ?_
  refine xt_icmp_le 23 dX8_sheet_17 rfl (fun _ => ?_) (fun q => absurd hz q)
  refine il3 dX8_sheet_23 ?_
  refine xt_if_ge 30 dX8_sheet_24 rfl (fun q => absurd q hz2) (fun _ => ?_)
  refine k_X8_221 dX8_sheet_27 ?_
  exact xt_iret dX8_sheet_29 rfl (lb rfl) (lb rfl) ⟨rfl, rfl, rfl⟩
def zIt (it : Nat → Int64) (s : Nat) : Nat → Nat → Int64
  | 0 => it
  | k + 1 => vp_updL (zIt it s k) (24 * s + k) 0
theorem zIt_s (it : Nat → Int64) (s k : Nat) : zIt it s (k + 1) = vp_updL (zIt it s k) (24 * s + k) 0 := rfl
set_option maxHeartbeats 400000 in
set_option maxRecDepth 100000 in
theorem cn_X8_sheet {h : ax_H} {n : Nat} {M : Nat} {un iu td aT nu ab be : Int32} {w tp mv rd ms mn la : Nat → Int32} {it tk : Nat → Int64} (s : Nat) (hs : s < 4) (lane : Int32) (hl : 0 ≤ lane ∧ lane ≤ 3) (z : Int32) (hz : z ≤ 24) (hz2 : 0 ≤ z) : ax_C yX8_sheet cX8_sheet 5 (some .int) 2 0 0 [.ref M, .int (nI s), .int lane, .int z] (mU h M un iu td aT nu ab be w tp mv rd ms mn la it tk) n (ki z (mU h M un iu td aT nu ab be w tp mv rd ms (upd mn s z) (upd la s lane) (zIt it s 24) tk) n) := by
  refine ax_C.go RX8 "sheet" [some (.ref M), some (.int (nI s)), some (.int lane), some (.int z), none] rfl rfl pn_X8 (lb rfl) rfl (fun l G cy bs => ?_)
  have lp : ∀ (d k : Nat), k + d = 24 → ∀ i1 : Nat → Int64, i1 = zIt it s k → ax_T l G cy bs (ax_rm 2 0 0) RX8 "sheet" cX8_sheet 5 (some .int) (ki z (mU h M un iu td aT nu ab be w tp mv rd ms (upd mn s z) (upd la s lane) (zIt it s 24) tk) n) 0 0 47 [some (.ref M), some (.int (nI s)), some (.int lane), some (.int z), some (.int (nI k))] [] (mU h M un iu td aT nu ab be w tp mv rd ms (upd mn s z) (upd la s lane) (i1) tk) n 0 0 := by
    intro d
    induction d with
    | zero =>
      intro k hk i1 hi1
      obtain rfl : k = 24 := by omega
      subst hi1
      refine il4 dX8_sheet_47 ?_
      refine xt_bipush (24) dX8_sheet_49 rfl ?_
      refine xt_icmp_ge 73 dX8_sheet_51 rfl (fun _ => ?_) (fun q => absurd (by decide) q)
      refine il3 dX8_sheet_73 ?_
      exact xt_iret dX8_sheet_74 rfl (lb rfl) (lb rfl) ⟨rfl, rfl, rfl⟩
    | succ d ih =>
      intro k hk i1 hi1
      refine il4 dX8_sheet_47 ?_
      refine xt_bipush (24) dX8_sheet_49 rfl ?_
      refine xt_icmp_ge 73 dX8_sheet_51 rfl (fun q => absurd q (nI_ge (a := k) (b := 24) (by omega) (by decide))) (fun _ => ?_)
      refine al0 dX8_sheet_54 ?_
      refine g_X8_35 dX8_sheet_55 mU_0 ?_
      refine xt_bipush (24) dX8_sheet_58 rfl ?_
      refine il1 dX8_sheet_60 ?_
      refine xt_imul dX8_sheet_61 ?_
      refine il4 dX8_sheet_62 ?_
      refine xt_iadd dX8_sheet_64 ?_
      refine xt_lconst (0) dX8_sheet_65 rfl ?_
      refine xt_last ((24) * (s) + k) mU_8 (by omega) (ne_add (a := (24) * (s)) (b := k) (ne_mul (a := 24) (b := s) rfl rfl) rfl) (by decide) dX8_sheet_66 ?_
      refine xt_heq mU_p8 ?_
      refine inc4 (nI (k + 1)) dX8_sheet_67 (nI_1 _) (by decide) rfl ?_
      refine xt_goto 47 dX8_sheet_70 rfl ?_
      exact ih (k + 1) (by omega) _ (by rw [zIt_s, ← hi1])
  refine il1 dX8_sheet_0 ?_
  refine s_X8_203 dX8_sheet_1 (cn_X8_isSheet _) ⟨lb rfl, lb rfl, lb rfl, lb rfl⟩ ?_
  refine xt_if_eq 20 dX8_sheet_4 rfl (fun q => absurd q (fl1 ⟨nI_pos' (by omega), nI_le (b := 3) (by omega) (by decide)⟩)) (fun _ => ?_)
  refine il2 dX8_sheet_7 ?_
  refine s_X8_206 dX8_sheet_8 (cn_X8_isLane _) ⟨lb rfl, lb rfl, lb rfl, lb rfl⟩ ?_
  refine xt_if_eq 20 dX8_sheet_11 rfl (fun q => absurd q (fl1 hl)) (fun _ => ?_)
  refine il3 dX8_sheet_14 ?_
  refine xt_bipush (24) dX8_sheet_15 rfl ?_
  refine xt_icmp_le 23 dX8_sheet_17 rfl (fun _ => ?_) (fun q => absurd hz q)
  refine il3 dX8_sheet_23 ?_
  refine xt_if_ge 30 dX8_sheet_24 rfl (fun _ => ?_) (fun q => absurd hz2 q)
  refine al0 dX8_sheet_30 ?_
  refine g_X8_29 dX8_sheet_31 mU_0 ?_
  refine il1 dX8_sheet_34 ?_
  refine il3 dX8_sheet_35 ?_
  refine xt_iast (s) mU_6 (by omega) rfl (by decide) dX8_sheet_36 ?_
  refine xt_heq mU_p6 ?_
  refine al0 dX8_sheet_37 ?_
  refine g_X8_32 dX8_sheet_38 mU_0 ?_
  refine il1 dX8_sheet_41 ?_
  refine il2 dX8_sheet_42 ?_
  refine xt_iast (s) mU_7 (by omega) rfl (by decide) dX8_sheet_43 ?_
  refine xt_heq mU_p7 ?_
  refine xt_iconst (0) dX8_sheet_44 rfl ?_
  refine is4 dX8_sheet_45 (by decide) rfl ?_
  exact lp 24 0 rfl _ rfl
set_option maxHeartbeats 400000 in
set_option maxRecDepth 100000 in
theorem cn_X8_drop_b {h : ax_H} {n : Nat} {M : Nat} {un iu td aT nu ab be : Int32} {w tp mv rd ms mn la : Nat → Int32} {it tk : Nat → Int64} (x : Int32) (hx : ¬ (0 ≤ x ∧ x ≤ 3)) : ax_C yX8_drop cX8_drop 3 (some .int) 2 0 0 [.ref M, .int x] (mU h M un iu td aT nu ab be w tp mv rd ms mn la it tk) n (ki ((-1000001)) (mU h M un iu td aT nu ab be w tp mv rd ms mn la it tk) n) := by
  refine ax_C.go RX8 "drop" [some (.ref M), some (.int x), none] rfl rfl pn_X8 (lb rfl) rfl (fun l G cy bs => ?_)
  refine il1 dX8_drop_0 ?_
  refine s_X8_203 dX8_drop_1 (cn_X8_isSheet _) ⟨lb rfl, lb rfl, lb rfl, lb rfl⟩ ?_
  refine xt_if_ne 10 dX8_drop_4 rfl (fun q => absurd (fl0 hx) q) (fun _ => ?_)
  refine k_X8_112 dX8_drop_7 ?_
  exact xt_iret dX8_drop_9 rfl (lb rfl) (lb rfl) ⟨rfl, rfl, rfl⟩
set_option maxHeartbeats 400000 in
set_option maxRecDepth 100000 in
theorem cn_X8_drop {h : ax_H} {n : Nat} {M : Nat} {un iu td aT nu ab be : Int32} {w tp mv rd ms mn la : Nat → Int32} {it tk : Nat → Int64} (s : Nat) (hs : s < 4) : ax_C yX8_drop cX8_drop 3 (some .int) 2 0 0 [.ref M, .int (nI s)] (mU h M un iu td aT nu ab be w tp mv rd ms mn la it tk) n (ki (if 0 ≤ mn s then mn s else -1000011) (mU h M un iu td aT nu ab be w tp mv rd ms (upd mn s (-1)) la it tk) n) := by
  refine ax_C.go RX8 "drop" [some (.ref M), some (.int (nI s)), none] rfl rfl pn_X8 (lb rfl) rfl (fun l G cy bs => ?_)
  refine il1 dX8_drop_0 ?_
  refine s_X8_203 dX8_drop_1 (cn_X8_isSheet _) ⟨lb rfl, lb rfl, lb rfl, lb rfl⟩ ?_
  refine xt_if_ne 10 dX8_drop_4 rfl (fun _ => ?_) (fun q => absurd q (fl1 ⟨nI_pos' (by omega), nI_le (b := 3) (by omega) (by decide)⟩))
  refine al0 dX8_drop_10 ?_
  refine g_X8_29 dX8_drop_11 mU_0 ?_
  refine il1 dX8_drop_14 ?_
  refine xt_iald (s) mU_6 (by omega) rfl (by decide) dX8_drop_15 ?_
  refine is2 dX8_drop_16 (by decide) rfl ?_
  refine al0 dX8_drop_17 ?_
  refine g_X8_29 dX8_drop_18 mU_0 ?_
  refine il1 dX8_drop_21 ?_
  refine xt_iconst (-1) dX8_drop_22 rfl ?_
  refine xt_iast (s) mU_6 (by omega) rfl (by decide) dX8_drop_23 ?_
  refine xt_heq mU_p6 ?_
  refine il2 dX8_drop_24 ?_
  apply xj_if_ge 33 dX8_drop_25 rfl
  · intro k25
    refine ⟨fun c25 => ?_, fun c25 => ?_⟩
    · refine il2 dX8_drop_33 ?_
      exact xt_it1 k25 c25
    · refine k_X8_200 dX8_drop_28 ?_
      refine xt_goto 34 dX8_drop_30 rfl ?_
      exact xt_it2 k25 c25
  · skip
    exact xt_iret dX8_drop_34 rfl (lb rfl) (lb rfl) ⟨rfl, rfl, rfl⟩
set_option maxHeartbeats 400000 in
set_option maxRecDepth 100000 in
theorem cn_X8_item_b1 {h : ax_H} {n : Nat} {M : Nat} {un iu td aT nu ab be : Int32} {w tp mv rd ms mn la : Nat → Int32} {it tk : Nat → Int64} (x lane i : Int32) (v : Int64) (hx : ¬ (0 ≤ x ∧ x ≤ 3)) : ax_C yX8_item cX8_item 7 (some .int) 2 0 0 [.ref M, .int x, .int lane, .int i, .long v] (mU h M un iu td aT nu ab be w tp mv rd ms mn la it tk) n (ki ((-1000001)) (mU h M un iu td aT nu ab be w tp mv rd ms mn la it tk) n) := by
  refine ax_C.go RX8 "item" [some (.ref M), some (.int x), some (.int lane), some (.int i), some (.long v), none, none] rfl rfl pn_X8 (lb rfl) rfl (fun l G cy bs => ?_)
  refine il1 dX8_item_0 ?_
  refine s_X8_203 dX8_item_1 (cn_X8_isSheet _) ⟨lb rfl, lb rfl, lb rfl, lb rfl⟩ ?_
  refine xt_if_eq 14 dX8_item_4 rfl (fun _ => ?_) (fun q => absurd (fl0 hx) q)
  refine k_X8_112 dX8_item_14 ?_
  exact xt_iret dX8_item_16 rfl (lb rfl) (lb rfl) ⟨rfl, rfl, rfl⟩
set_option maxHeartbeats 400000 in
set_option maxRecDepth 100000 in
theorem cn_X8_item_b2 {h : ax_H} {n : Nat} {M : Nat} {un iu td aT nu ab be : Int32} {w tp mv rd ms mn la : Nat → Int32} {it tk : Nat → Int64} (x lane i : Int32) (v : Int64) (hx : 0 ≤ x ∧ x ≤ 3) (hl : ¬ (0 ≤ lane ∧ lane ≤ 3)) : ax_C yX8_item cX8_item 7 (some .int) 2 0 0 [.ref M, .int x, .int lane, .int i, .long v] (mU h M un iu td aT nu ab be w tp mv rd ms mn la it tk) n (ki ((-1000001)) (mU h M un iu td aT nu ab be w tp mv rd ms mn la it tk) n) := by
  refine ax_C.go RX8 "item" [some (.ref M), some (.int x), some (.int lane), some (.int i), some (.long v), none, none] rfl rfl pn_X8 (lb rfl) rfl (fun l G cy bs => ?_)
  refine il1 dX8_item_0 ?_
  refine s_X8_203 dX8_item_1 (cn_X8_isSheet _) ⟨lb rfl, lb rfl, lb rfl, lb rfl⟩ ?_
  refine xt_if_eq 14 dX8_item_4 rfl (fun q => absurd q (fl1 hx)) (fun _ => ?_)
  refine il2 dX8_item_7 ?_
  refine s_X8_206 dX8_item_8 (cn_X8_isLane _) ⟨lb rfl, lb rfl, lb rfl, lb rfl⟩ ?_
  refine xt_if_ne 17 dX8_item_11 rfl (fun q => absurd (fl0 hl) q) (fun _ => ?_)
  refine k_X8_112 dX8_item_14 ?_
  exact xt_iret dX8_item_16 rfl (lb rfl) (lb rfl) ⟨rfl, rfl, rfl⟩
set_option maxHeartbeats 400000 in
set_option maxRecDepth 100000 in
theorem cn_X8_item_r {h : ax_H} {n : Nat} {M : Nat} {un iu td aT nu ab be : Int32} {w tp mv rd ms mn la : Nat → Int32} {it tk : Nat → Int64} (s : Nat) (hs : s < 4) (lane : Int32) (hl : 0 ≤ lane ∧ lane ≤ 3) (i : Int32) (v : Int64) (ha : ¬ agV mn la s lane i 1 = 0) : ax_C yX8_item cX8_item 7 (some .int) 2 0 0 [.ref M, .int (nI s), .int lane, .int i, .long v] (mU h M un iu td aT nu ab be w tp mv rd ms mn la it tk) n (ki (agV mn la s lane i 1) (mU h M un iu td aT nu ab be w tp mv rd ms mn la it tk) n) := by
  refine ax_C.go RX8 "item" [some (.ref M), some (.int (nI s)), some (.int lane), some (.int i), some (.long v), none, none] rfl rfl pn_X8 (lb rfl) rfl (fun l G cy bs => ?_)
  refine il1 dX8_item_0 ?_
  refine s_X8_203 dX8_item_1 (cn_X8_isSheet _) ⟨lb rfl, lb rfl, lb rfl, lb rfl⟩ ?_
  refine xt_if_eq 14 dX8_item_4 rfl (fun q => absurd q (fl1 ⟨nI_pos' (by omega), nI_le (b := 3) (by omega) (by decide)⟩)) (fun _ => ?_)
  refine il2 dX8_item_7 ?_
  refine s_X8_206 dX8_item_8 (cn_X8_isLane _) ⟨lb rfl, lb rfl, lb rfl, lb rfl⟩ ?_
  refine xt_if_ne 17 dX8_item_11 rfl (fun _ => ?_) (fun q => absurd q (fl1 hl))
  refine al0 dX8_item_17 ?_
  refine il1 dX8_item_18 ?_
  refine il2 dX8_item_19 ?_
  refine il3 dX8_item_20 ?_
  refine xt_iconst (1) dX8_item_21 rfl ?_
  refine s_X8_209 dX8_item_22 (cn_X8_against (s) (by omega) _ _ _) mU_0 ⟨lb rfl, lb rfl, lb rfl, lb rfl⟩ ?_
  refine is6 dX8_item_25 (by decide) rfl ?_
  refine il6 dX8_item_27 ?_
  refine xt_if_eq 35 dX8_item_29 rfl (fun q => absurd q ha) (fun _ => ?_)
  refine il6 dX8_item_32 ?_
  exact xt_iret dX8_item_34 rfl (lb rfl) (lb rfl) ⟨rfl, rfl, rfl⟩
set_option maxHeartbeats 400000 in
set_option maxRecDepth 100000 in
theorem cn_X8_item {h : ax_H} {n : Nat} {M : Nat} {un iu td aT nu ab be : Int32} {w tp mv rd ms mn la : Nat → Int32} {it tk : Nat → Int64} (s : Nat) (hs : s < 4) (lane : Int32) (hl : 0 ≤ lane ∧ lane ≤ 3) (i : Nat) (hi : i < 24) (v : Int64) (ha : agV mn la s lane (nI i) 1 = 0) : ax_C yX8_item cX8_item 7 (some .int) 2 0 0 [.ref M, .int (nI s), .int lane, .int (nI i), .long v] (mU h M un iu td aT nu ab be w tp mv rd ms mn la it tk) n (ki (1) (mU h M un iu td aT nu ab be w tp mv rd ms mn la (vp_updL it (24 * s + i) (lowV lane v)) tk) n) := by
  refine ax_C.go RX8 "item" [some (.ref M), some (.int (nI s)), some (.int lane), some (.int (nI i)), some (.long v), none, none] rfl rfl pn_X8 (lb rfl) rfl (fun l G cy bs => ?_)
  refine il1 dX8_item_0 ?_
  refine s_X8_203 dX8_item_1 (cn_X8_isSheet _) ⟨lb rfl, lb rfl, lb rfl, lb rfl⟩ ?_
  refine xt_if_eq 14 dX8_item_4 rfl (fun q => absurd q (fl1 ⟨nI_pos' (by omega), nI_le (b := 3) (by omega) (by decide)⟩)) (fun _ => ?_)
  refine il2 dX8_item_7 ?_
  refine s_X8_206 dX8_item_8 (cn_X8_isLane _) ⟨lb rfl, lb rfl, lb rfl, lb rfl⟩ ?_
  refine xt_if_ne 17 dX8_item_11 rfl (fun _ => ?_) (fun q => absurd q (fl1 hl))
  refine al0 dX8_item_17 ?_
  refine il1 dX8_item_18 ?_
  refine il2 dX8_item_19 ?_
  refine il3 dX8_item_20 ?_
  refine xt_iconst (1) dX8_item_21 rfl ?_
  refine s_X8_209 dX8_item_22 (cn_X8_against (s) (by omega) _ _ _) mU_0 ⟨lb rfl, lb rfl, lb rfl, lb rfl⟩ ?_
  refine is6 dX8_item_25 (by decide) rfl ?_
  refine il6 dX8_item_27 ?_
  refine xt_if_eq 35 dX8_item_29 rfl (fun _ => ?_) (fun q => absurd ha q)
  refine al0 dX8_item_35 ?_
  refine g_X8_35 dX8_item_36 mU_0 ?_
  refine xt_bipush (24) dX8_item_39 rfl ?_
  refine il1 dX8_item_41 ?_
  refine xt_imul dX8_item_42 ?_
  refine il3 dX8_item_43 ?_
  refine xt_iadd dX8_item_44 ?_
  refine il2 dX8_item_45 ?_
  refine ll4 dX8_item_46 ?_
  refine s_X8_217 dX8_item_48 (cn_X8_low _ _) ⟨lb rfl, lb rfl, lb rfl, lb rfl⟩ ?_
  refine xt_last ((24) * (s) + i) mU_8 (by omega) (ne_add (a := (24) * (s)) (b := i) (ne_mul (a := 24) (b := s) rfl rfl) rfl) (by decide) dX8_item_51 ?_
  refine xt_heq mU_p8 ?_
  refine xt_iconst (1) dX8_item_52 rfl ?_
  exact xt_iret dX8_item_53 rfl (lb rfl) (lb rfl) ⟨rfl, rfl, rfl⟩
set_option maxHeartbeats 400000 in
set_option maxRecDepth 100000 in
theorem cn_X8_copy_b1 {h : ax_H} {n : Nat} {M : Nat} {un iu td aT nu ab be : Int32} {w tp mv rd ms mn la : Nat → Int32} {it tk : Nat → Int64} (x i y j z : Int32) (hx : ¬ (0 ≤ x ∧ x ≤ 3)) : ax_C yX8_copy cX8_copy 7 (some .int) 2 0 0 [.ref M, .int x, .int i, .int y, .int j, .int z] (mU h M un iu td aT nu ab be w tp mv rd ms mn la it tk) n (ki ((-1000001)) (mU h M un iu td aT nu ab be w tp mv rd ms mn la it tk) n) := by
  refine ax_C.go RX8 "copy" [some (.ref M), some (.int x), some (.int i), some (.int y), some (.int j), some (.int z), none] rfl rfl pn_X8 (lb rfl) rfl (fun l G cy bs => ?_)
  refine il1 dX8_copy_0 ?_
  refine s_X8_203 dX8_copy_1 (cn_X8_isSheet _) ⟨lb rfl, lb rfl, lb rfl, lb rfl⟩ ?_
  refine xt_if_eq 14 dX8_copy_4 rfl (fun _ => ?_) (fun q => absurd (fl0 hx) q)
  refine k_X8_112 dX8_copy_14 ?_
  exact xt_iret dX8_copy_16 rfl (lb rfl) (lb rfl) ⟨rfl, rfl, rfl⟩
set_option maxHeartbeats 400000 in
set_option maxRecDepth 100000 in
theorem cn_X8_copy_b2 {h : ax_H} {n : Nat} {M : Nat} {un iu td aT nu ab be : Int32} {w tp mv rd ms mn la : Nat → Int32} {it tk : Nat → Int64} (x i y j z : Int32) (hx : 0 ≤ x ∧ x ≤ 3) (hl : ¬ (0 ≤ y ∧ y ≤ 3)) : ax_C yX8_copy cX8_copy 7 (some .int) 2 0 0 [.ref M, .int x, .int i, .int y, .int j, .int z] (mU h M un iu td aT nu ab be w tp mv rd ms mn la it tk) n (ki ((-1000001)) (mU h M un iu td aT nu ab be w tp mv rd ms mn la it tk) n) := by
  refine ax_C.go RX8 "copy" [some (.ref M), some (.int x), some (.int i), some (.int y), some (.int j), some (.int z), none] rfl rfl pn_X8 (lb rfl) rfl (fun l G cy bs => ?_)
  refine il1 dX8_copy_0 ?_
  refine s_X8_203 dX8_copy_1 (cn_X8_isSheet _) ⟨lb rfl, lb rfl, lb rfl, lb rfl⟩ ?_
  refine xt_if_eq 14 dX8_copy_4 rfl (fun q => absurd q (fl1 hx)) (fun _ => ?_)
  refine il3 dX8_copy_7 ?_
  refine s_X8_203 dX8_copy_8 (cn_X8_isSheet _) ⟨lb rfl, lb rfl, lb rfl, lb rfl⟩ ?_
  refine xt_if_ne 17 dX8_copy_11 rfl (fun q => absurd (fl0 hl) q) (fun _ => ?_)
  refine k_X8_112 dX8_copy_14 ?_
  exact xt_iret dX8_copy_16 rfl (lb rfl) (lb rfl) ⟨rfl, rfl, rfl⟩
set_option maxHeartbeats 400000 in
set_option maxRecDepth 100000 in
theorem cn_X8_copy_n1 {h : ax_H} {n : Nat} {M : Nat} {un iu td aT nu ab be : Int32} {w tp mv rd ms mn la : Nat → Int32} {it tk : Nat → Int64} (s t : Nat) (hs : s < 4) (ht : t < 4) (i j z : Int32) (hn : mn s < 0) : ax_C yX8_copy cX8_copy 7 (some .int) 2 0 0 [.ref M, .int (nI s), .int i, .int (nI t), .int j, .int z] (mU h M un iu td aT nu ab be w tp mv rd ms mn la it tk) n (ki ((-1000011)) (mU h M un iu td aT nu ab be w tp mv rd ms mn la it tk) n) := by
  refine ax_C.go RX8 "copy" [some (.ref M), some (.int (nI s)), some (.int i), some (.int (nI t)), some (.int j), some (.int z), none] rfl rfl pn_X8 (lb rfl) rfl (fun l G cy bs => ?_)
  refine il1 dX8_copy_0 ?_
  refine s_X8_203 dX8_copy_1 (cn_X8_isSheet _) ⟨lb rfl, lb rfl, lb rfl, lb rfl⟩ ?_
  refine xt_if_eq 14 dX8_copy_4 rfl (fun q => absurd q (fl1 ⟨nI_pos' (by omega), nI_le (b := 3) (by omega) (by decide)⟩)) (fun _ => ?_)
  refine il3 dX8_copy_7 ?_
  refine s_X8_203 dX8_copy_8 (cn_X8_isSheet _) ⟨lb rfl, lb rfl, lb rfl, lb rfl⟩ ?_
  refine xt_if_ne 17 dX8_copy_11 rfl (fun _ => ?_) (fun q => absurd q (fl1 ⟨nI_pos' (by omega), nI_le (b := 3) (by omega) (by decide)⟩))
  refine al0 dX8_copy_17 ?_
  refine g_X8_29 dX8_copy_18 mU_0 ?_
  refine il1 dX8_copy_21 ?_
  refine xt_iald (s) mU_6 (by omega) rfl (by decide) dX8_copy_22 ?_
  refine xt_if_lt 35 dX8_copy_23 rfl (fun _ => ?_) (fun q => absurd hn q)
  refine k_X8_200 dX8_copy_35 ?_
  exact xt_iret dX8_copy_37 rfl (lb rfl) (lb rfl) ⟨rfl, rfl, rfl⟩
set_option maxHeartbeats 400000 in
set_option maxRecDepth 100000 in
theorem cn_X8_copy_n2 {h : ax_H} {n : Nat} {M : Nat} {un iu td aT nu ab be : Int32} {w tp mv rd ms mn la : Nat → Int32} {it tk : Nat → Int64} (s t : Nat) (hs : s < 4) (ht : t < 4) (i j z : Int32) (hn : ¬ mn s < 0) (hn2 : ¬ 0 ≤ mn t) : ax_C yX8_copy cX8_copy 7 (some .int) 2 0 0 [.ref M, .int (nI s), .int i, .int (nI t), .int j, .int z] (mU h M un iu td aT nu ab be w tp mv rd ms mn la it tk) n (ki ((-1000011)) (mU h M un iu td aT nu ab be w tp mv rd ms mn la it tk) n) := by
  refine ax_C.go RX8 "copy" [some (.ref M), some (.int (nI s)), some (.int i), some (.int (nI t)), some (.int j), some (.int z), none] rfl rfl pn_X8 (lb rfl) rfl (fun l G cy bs => ?_)
  refine il1 dX8_copy_0 ?_
  refine s_X8_203 dX8_copy_1 (cn_X8_isSheet _) ⟨lb rfl, lb rfl, lb rfl, lb rfl⟩ ?_
  refine xt_if_eq 14 dX8_copy_4 rfl (fun q => absurd q (fl1 ⟨nI_pos' (by omega), nI_le (b := 3) (by omega) (by decide)⟩)) (fun _ => ?_)
  refine il3 dX8_copy_7 ?_
  refine s_X8_203 dX8_copy_8 (cn_X8_isSheet _) ⟨lb rfl, lb rfl, lb rfl, lb rfl⟩ ?_
  refine xt_if_ne 17 dX8_copy_11 rfl (fun _ => ?_) (fun q => absurd q (fl1 ⟨nI_pos' (by omega), nI_le (b := 3) (by omega) (by decide)⟩))
  refine al0 dX8_copy_17 ?_
  refine g_X8_29 dX8_copy_18 mU_0 ?_
  refine il1 dX8_copy_21 ?_
  refine xt_iald (s) mU_6 (by omega) rfl (by decide) dX8_copy_22 ?_
  refine xt_if_lt 35 dX8_copy_23 rfl (fun q => absurd q hn) (fun _ => ?_)
  refine al0 dX8_copy_26 ?_
  refine g_X8_29 dX8_copy_27 mU_0 ?_
  refine il3 dX8_copy_30 ?_
  refine xt_iald (t) mU_6 (by omega) rfl (by decide) dX8_copy_31 ?_
  refine xt_if_ge 38 dX8_copy_32 rfl (fun q => absurd q hn2) (fun _ => ?_)
  refine k_X8_200 dX8_copy_35 ?_
  exact xt_iret dX8_copy_37 rfl (lb rfl) (lb rfl) ⟨rfl, rfl, rfl⟩
set_option maxHeartbeats 400000 in
set_option maxRecDepth 100000 in
theorem cn_X8_copy_c {h : ax_H} {n : Nat} {M : Nat} {un iu td aT nu ab be : Int32} {w tp mv rd ms mn la : Nat → Int32} {it tk : Nat → Int64} (s t : Nat) (hs : s < 4) (ht : t < 4) (i j z : Int32) (hn : ¬ mn s < 0) (hn2 : 0 ≤ mn t) (hc : ¬ la s = la t) : ax_C yX8_copy cX8_copy 7 (some .int) 2 0 0 [.ref M, .int (nI s), .int i, .int (nI t), .int j, .int z] (mU h M un iu td aT nu ab be w tp mv rd ms mn la it tk) n (ki ((-1000012)) (mU h M un iu td aT nu ab be w tp mv rd ms mn la it tk) n) := by
  refine ax_C.go RX8 "copy" [some (.ref M), some (.int (nI s)), some (.int i), some (.int (nI t)), some (.int j), some (.int z), none] rfl rfl pn_X8 (lb rfl) rfl (fun l G cy bs => ?_)
  refine il1 dX8_copy_0 ?_
  refine s_X8_203 dX8_copy_1 (cn_X8_isSheet _) ⟨lb rfl, lb rfl, lb rfl, lb rfl⟩ ?_
  refine xt_if_eq 14 dX8_copy_4 rfl (fun q => absurd q (fl1 ⟨nI_pos' (by omega), nI_le (b := 3) (by omega) (by decide)⟩)) (fun _ => ?_)
  refine il3 dX8_copy_7 ?_
  refine s_X8_203 dX8_copy_8 (cn_X8_isSheet _) ⟨lb rfl, lb rfl, lb rfl, lb rfl⟩ ?_
  refine xt_if_ne 17 dX8_copy_11 rfl (fun _ => ?_) (fun q => absurd q (fl1 ⟨nI_pos' (by omega), nI_le (b := 3) (by omega) (by decide)⟩))
  refine al0 dX8_copy_17 ?_
  refine g_X8_29 dX8_copy_18 mU_0 ?_
  refine il1 dX8_copy_21 ?_
  refine xt_iald (s) mU_6 (by omega) rfl (by decide) dX8_copy_22 ?_
  refine xt_if_lt 35 dX8_copy_23 rfl (fun q => absurd q hn) (fun _ => ?_)
  refine al0 dX8_copy_26 ?_
  refine g_X8_29 dX8_copy_27 mU_0 ?_
  refine il3 dX8_copy_30 ?_
  refine xt_iald (t) mU_6 (by omega) rfl (by decide) dX8_copy_31 ?_
  refine xt_if_ge 38 dX8_copy_32 rfl (fun _ => ?_) (fun q => absurd hn2 q)
  refine al0 dX8_copy_38 ?_
  refine g_X8_32 dX8_copy_39 mU_0 ?_
  refine il1 dX8_copy_42 ?_
  refine xt_iald (s) mU_7 (by omega) rfl (by decide) dX8_copy_43 ?_
  refine al0 dX8_copy_44 ?_
  refine g_X8_32 dX8_copy_45 mU_0 ?_
  refine il3 dX8_copy_48 ?_
  refine xt_iald (t) mU_7 (by omega) rfl (by decide) dX8_copy_49 ?_
  refine xt_icmp_eq 56 dX8_copy_50 rfl (fun q => absurd q hc) (fun _ => ?_)
  refine k_X8_201 dX8_copy_53 ?_
  exact xt_iret dX8_copy_55 rfl (lb rfl) (lb rfl) ⟨rfl, rfl, rfl⟩
set_option maxHeartbeats 400000 in
set_option maxRecDepth 100000 in
theorem cn_X8_copy_i1 {h : ax_H} {n : Nat} {M : Nat} {un iu td aT nu ab be : Int32} {w tp mv rd ms mn la : Nat → Int32} {it tk : Nat → Int64} (s t : Nat) (hs : s < 4) (ht : t < 4) (i j z : Int32) (hn : ¬ mn s < 0) (hn2 : 0 ≤ mn t) (hc : la s = la t) (h1 : ¬ agV mn la s (la s) i z = 0) : ax_C yX8_copy cX8_copy 7 (some .int) 2 0 0 [.ref M, .int (nI s), .int i, .int (nI t), .int j, .int z] (mU h M un iu td aT nu ab be w tp mv rd ms mn la it tk) n (ki ((-1000013)) (mU h M un iu td aT nu ab be w tp mv rd ms mn la it tk) n) := by
  refine ax_C.go RX8 "copy" [some (.ref M), some (.int (nI s)), some (.int i), some (.int (nI t)), some (.int j), some (.int z), none] rfl rfl pn_X8 (lb rfl) rfl (fun l G cy bs => ?_)
  refine il1 dX8_copy_0 ?_
  refine s_X8_203 dX8_copy_1 (cn_X8_isSheet _) ⟨lb rfl, lb rfl, lb rfl, lb rfl⟩ ?_
  refine xt_if_eq 14 dX8_copy_4 rfl (fun q => absurd q (fl1 ⟨nI_pos' (by omega), nI_le (b := 3) (by omega) (by decide)⟩)) (fun _ => ?_)
  refine il3 dX8_copy_7 ?_
  refine s_X8_203 dX8_copy_8 (cn_X8_isSheet _) ⟨lb rfl, lb rfl, lb rfl, lb rfl⟩ ?_
  refine xt_if_ne 17 dX8_copy_11 rfl (fun _ => ?_) (fun q => absurd q (fl1 ⟨nI_pos' (by omega), nI_le (b := 3) (by omega) (by decide)⟩))
  refine al0 dX8_copy_17 ?_
  refine g_X8_29 dX8_copy_18 mU_0 ?_
  refine il1 dX8_copy_21 ?_
  refine xt_iald (s) mU_6 (by omega) rfl (by decide) dX8_copy_22 ?_
  refine xt_if_lt 35 dX8_copy_23 rfl (fun q => absurd q hn) (fun _ => ?_)
  refine al0 dX8_copy_26 ?_
  refine g_X8_29 dX8_copy_27 mU_0 ?_
  refine il3 dX8_copy_30 ?_
  refine xt_iald (t) mU_6 (by omega) rfl (by decide) dX8_copy_31 ?_
  refine xt_if_ge 38 dX8_copy_32 rfl (fun _ => ?_) (fun q => absurd hn2 q)
  refine al0 dX8_copy_38 ?_
  refine g_X8_32 dX8_copy_39 mU_0 ?_
  refine il1 dX8_copy_42 ?_
  refine xt_iald (s) mU_7 (by omega) rfl (by decide) dX8_copy_43 ?_
  refine al0 dX8_copy_44 ?_
  refine g_X8_32 dX8_copy_45 mU_0 ?_
  refine il3 dX8_copy_48 ?_
  refine xt_iald (t) mU_7 (by omega) rfl (by decide) dX8_copy_49 ?_
  refine xt_icmp_eq 56 dX8_copy_50 rfl (fun _ => ?_) (fun q => absurd hc q)
  refine al0 dX8_copy_56 ?_
  refine il1 dX8_copy_57 ?_
  refine al0 dX8_copy_58 ?_
  refine g_X8_32 dX8_copy_59 mU_0 ?_
  refine il1 dX8_copy_62 ?_
  refine xt_iald (s) mU_7 (by omega) rfl (by decide) dX8_copy_63 ?_
  refine il2 dX8_copy_64 ?_
  refine il5 dX8_copy_65 ?_
  refine s_X8_209 dX8_copy_67 (cn_X8_against (s) (by omega) _ _ _) mU_0 ⟨lb rfl, lb rfl, lb rfl, lb rfl⟩ ?_
  refine xt_if_ne 91 dX8_copy_70 rfl (fun _ => ?_) (fun q => absurd q h1)
  refine k_X8_202 dX8_copy_91 ?_
  exact xt_iret dX8_copy_93 rfl (lb rfl) (lb rfl) ⟨rfl, rfl, rfl⟩
set_option maxHeartbeats 400000 in
set_option maxRecDepth 100000 in
theorem cn_X8_copy_i2 {h : ax_H} {n : Nat} {M : Nat} {un iu td aT nu ab be : Int32} {w tp mv rd ms mn la : Nat → Int32} {it tk : Nat → Int64} (s t : Nat) (hs : s < 4) (ht : t < 4) (i j z : Int32) (hn : ¬ mn s < 0) (hn2 : 0 ≤ mn t) (hc : la s = la t) (h1 : agV mn la s (la s) i z = 0) (h2 : ¬ agV mn la t (la t) j z = 0) : ax_C yX8_copy cX8_copy 7 (some .int) 2 0 0 [.ref M, .int (nI s), .int i, .int (nI t), .int j, .int z] (mU h M un iu td aT nu ab be w tp mv rd ms mn la it tk) n (ki ((-1000013)) (mU h M un iu td aT nu ab be w tp mv rd ms mn la it tk) n) := by
  refine ax_C.go RX8 "copy" [some (.ref M), some (.int (nI s)), some (.int i), some (.int (nI t)), some (.int j), some (.int z), none] rfl rfl pn_X8 (lb rfl) rfl (fun l G cy bs => ?_)
  refine il1 dX8_copy_0 ?_
  refine s_X8_203 dX8_copy_1 (cn_X8_isSheet _) ⟨lb rfl, lb rfl, lb rfl, lb rfl⟩ ?_
  refine xt_if_eq 14 dX8_copy_4 rfl (fun q => absurd q (fl1 ⟨nI_pos' (by omega), nI_le (b := 3) (by omega) (by decide)⟩)) (fun _ => ?_)
  refine il3 dX8_copy_7 ?_
  refine s_X8_203 dX8_copy_8 (cn_X8_isSheet _) ⟨lb rfl, lb rfl, lb rfl, lb rfl⟩ ?_
  refine xt_if_ne 17 dX8_copy_11 rfl (fun _ => ?_) (fun q => absurd q (fl1 ⟨nI_pos' (by omega), nI_le (b := 3) (by omega) (by decide)⟩))
  refine al0 dX8_copy_17 ?_
  refine g_X8_29 dX8_copy_18 mU_0 ?_
  refine il1 dX8_copy_21 ?_
  refine xt_iald (s) mU_6 (by omega) rfl (by decide) dX8_copy_22 ?_
  refine xt_if_lt 35 dX8_copy_23 rfl (fun q => absurd q hn) (fun _ => ?_)
  refine al0 dX8_copy_26 ?_
  refine g_X8_29 dX8_copy_27 mU_0 ?_
  refine il3 dX8_copy_30 ?_
  refine xt_iald (t) mU_6 (by omega) rfl (by decide) dX8_copy_31 ?_
  refine xt_if_ge 38 dX8_copy_32 rfl (fun _ => ?_) (fun q => absurd hn2 q)
  refine al0 dX8_copy_38 ?_
  refine g_X8_32 dX8_copy_39 mU_0 ?_
  refine il1 dX8_copy_42 ?_
  refine xt_iald (s) mU_7 (by omega) rfl (by decide) dX8_copy_43 ?_
  refine al0 dX8_copy_44 ?_
  refine g_X8_32 dX8_copy_45 mU_0 ?_
  refine il3 dX8_copy_48 ?_
  refine xt_iald (t) mU_7 (by omega) rfl (by decide) dX8_copy_49 ?_
  refine xt_icmp_eq 56 dX8_copy_50 rfl (fun _ => ?_) (fun q => absurd hc q)
  refine al0 dX8_copy_56 ?_
  refine il1 dX8_copy_57 ?_
  refine al0 dX8_copy_58 ?_
  refine g_X8_32 dX8_copy_59 mU_0 ?_
  refine il1 dX8_copy_62 ?_
  refine xt_iald (s) mU_7 (by omega) rfl (by decide) dX8_copy_63 ?_
  refine il2 dX8_copy_64 ?_
  refine il5 dX8_copy_65 ?_
  refine s_X8_209 dX8_copy_67 (cn_X8_against (s) (by omega) _ _ _) mU_0 ⟨lb rfl, lb rfl, lb rfl, lb rfl⟩ ?_
  refine xt_if_ne 91 dX8_copy_70 rfl (fun q => absurd h1 q) (fun _ => ?_)
  refine al0 dX8_copy_73 ?_
  refine il3 dX8_copy_74 ?_
  refine al0 dX8_copy_75 ?_
  refine g_X8_32 dX8_copy_76 mU_0 ?_
  refine il3 dX8_copy_79 ?_
  refine xt_iald (t) mU_7 (by omega) rfl (by decide) dX8_copy_80 ?_
  refine il4 dX8_copy_81 ?_
  refine il5 dX8_copy_83 ?_
  refine s_X8_209 dX8_copy_85 (cn_X8_against (t) (by omega) _ _ _) mU_0 ⟨lb rfl, lb rfl, lb rfl, lb rfl⟩ ?_
  refine xt_if_eq 94 dX8_copy_88 rfl (fun q => absurd q h2) (fun _ => ?_)
  refine k_X8_202 dX8_copy_91 ?_
  exact xt_iret dX8_copy_93 rfl (lb rfl) (lb rfl) ⟨rfl, rfl, rfl⟩
def tkR (it tk : Nat → Int64) (f : Nat) : Nat → Nat → Int64
  | 0 => tk
  | k + 1 => vp_updL (tkR it tk f k) k (it (f + k))
theorem tkR_s (it tk : Nat → Int64) (f k : Nat) : tkR it tk f (k + 1) = vp_updL (tkR it tk f k) k (it (f + k)) := rfl
def ptR (it tk : Nat → Int64) (f : Nat) : Nat → Nat → Int64
  | 0 => it
  | k + 1 => vp_updL (ptR it tk f k) (f + k) (tk k)
theorem ptR_s (it tk : Nat → Int64) (f k : Nat) : ptR it tk f (k + 1) = vp_updL (ptR it tk f k) (f + k) (tk k) := rfl
set_option maxHeartbeats 400000 in
set_option maxRecDepth 100000 in
theorem cn_X8_copy {h : ax_H} {n : Nat} {M : Nat} {un iu td aT nu ab be : Int32} {w tp mv rd ms mn la : Nat → Int32} {it tk : Nat → Int64} (s t i j z : Nat) (hs : s < 4) (ht : t < 4) (hn : ¬ mn s < 0) (hn2 : 0 ≤ mn t) (hc : la s = la t) (hi : i + z ≤ 24) (hj : j + z ≤ 24) (h1 : agV mn la s (la s) (nI i) (nI z) = 0) (h2 : agV mn la t (la t) (nI j) (nI z) = 0) : ax_C yX8_copy cX8_copy 7 (some .int) 2 0 0 [.ref M, .int (nI s), .int (nI i), .int (nI t), .int (nI j), .int (nI z)] (mU h M un iu td aT nu ab be w tp mv rd ms mn la it tk) n (ki (nI z) (mU h M un iu td aT nu ab be w tp mv rd ms mn la (ptR it (tkR it tk (24 * s + i) z) (24 * t + j) z) (tkR it tk (24 * s + i) z)) n) := by
  refine ax_C.go RX8 "copy" [some (.ref M), some (.int (nI s)), some (.int (nI i)), some (.int (nI t)), some (.int (nI j)), some (.int (nI z)), none] rfl rfl pn_X8 (lb rfl) rfl (fun l G cy bs => ?_)
  have lp2 : ∀ (d k : Nat), k + d = z → ∀ i1 : Nat → Int64, i1 = ptR it (tkR it tk (24 * s + i) z) (24 * t + j) k → ax_T l G cy bs (ax_rm 2 0 0) RX8 "copy" cX8_copy 7 (some .int) (ki (nI z) (mU h M un iu td aT nu ab be w tp mv rd ms mn la (ptR it (tkR it tk (24 * s + i) z) (24 * t + j) z) (tkR it tk (24 * s + i) z)) n) 0 0 134 [some (.ref M), some (.int (nI s)), some (.int (nI i)), some (.int (nI t)), some (.int (nI j)), some (.int (nI z)), some (.int (nI k))] [] (mU h M un iu td aT nu ab be w tp mv rd ms mn la (i1) (tkR it tk (24 * s + i) z)) n 0 0 := by
    intro d
    induction d with
    | zero =>
      intro k hk i1 hi1
      obtain rfl : k = z := by omega
      subst hi1
      refine il6 dX8_copy_134 ?_
      refine il5 dX8_copy_136 ?_
      refine xt_icmp_ge 169 dX8_copy_138 rfl (fun _ => ?_) (fun q => absurd (nI_le (Nat.le_refl _) (by omega)) q)
      refine il5 dX8_copy_169 ?_
      exact xt_iret dX8_copy_171 rfl (lb rfl) (lb rfl) ⟨rfl, rfl, rfl⟩
    | succ d ih =>
      intro k hk i1 hi1
      refine il6 dX8_copy_134 ?_
      refine il5 dX8_copy_136 ?_
      refine xt_icmp_ge 169 dX8_copy_138 rfl (fun q => absurd q (nI_ge (by omega) (by omega))) (fun _ => ?_)
      refine al0 dX8_copy_141 ?_
      refine g_X8_35 dX8_copy_142 mU_0 ?_
      refine xt_bipush (24) dX8_copy_145 rfl ?_
      refine il3 dX8_copy_147 ?_
      refine xt_imul dX8_copy_148 ?_
      refine il4 dX8_copy_149 ?_
      refine xt_iadd dX8_copy_151 ?_
      refine il6 dX8_copy_152 ?_
      refine xt_iadd dX8_copy_154 ?_
      refine al0 dX8_copy_155 ?_
      refine g_X8_39 dX8_copy_156 mU_0 ?_
      refine il6 dX8_copy_159 ?_
      refine xt_lald (k) mU_9 (by omega) rfl (by decide) dX8_copy_161 ?_
      refine xt_last ((24) * (t) + j + k) mU_8 (by omega) (ne_add (a := (24) * (t) + j) (b := k) (ne_add (a := (24) * (t)) (b := j) (ne_mul (a := 24) (b := t) rfl rfl) rfl) rfl) (by decide) dX8_copy_162 ?_
      refine xt_heq mU_p8 ?_
      refine inc6 (nI (k + 1)) dX8_copy_163 (nI_1 _) (by decide) rfl ?_
      refine xt_goto 134 dX8_copy_166 rfl ?_
      exact ih (k + 1) (by omega) _ (by rw [ptR_s, ← hi1])
  have lp1 : ∀ (d k : Nat), k + d = z → ∀ t1 : Nat → Int64, t1 = tkR it tk (24 * s + i) k → ax_T l G cy bs (ax_rm 2 0 0) RX8 "copy" cX8_copy 7 (some .int) (ki (nI z) (mU h M un iu td aT nu ab be w tp mv rd ms mn la (ptR it (tkR it tk (24 * s + i) z) (24 * t + j) z) (tkR it tk (24 * s + i) z)) n) 0 0 97 [some (.ref M), some (.int (nI s)), some (.int (nI i)), some (.int (nI t)), some (.int (nI j)), some (.int (nI z)), some (.int (nI k))] [] (mU h M un iu td aT nu ab be w tp mv rd ms mn la it (t1)) n 0 0 := by
    intro d
    induction d with
    | zero =>
      intro k hk t1 ht1
      obtain rfl : k = z := by omega
      subst ht1
      refine il6 dX8_copy_97 ?_
      refine il5 dX8_copy_99 ?_
      refine xt_icmp_ge 131 dX8_copy_101 rfl (fun _ => ?_) (fun q => absurd (nI_le (Nat.le_refl _) (by omega)) q)
      refine xt_iconst (0) dX8_copy_131 rfl ?_
      refine is6 dX8_copy_132 (by decide) rfl ?_
      exact lp2 k 0 (Nat.zero_add _) _ rfl
    | succ d ih =>
      intro k hk t1 ht1
      refine il6 dX8_copy_97 ?_
      refine il5 dX8_copy_99 ?_
      refine xt_icmp_ge 131 dX8_copy_101 rfl (fun q => absurd q (nI_ge (by omega) (by omega))) (fun _ => ?_)
      refine al0 dX8_copy_104 ?_
      refine g_X8_39 dX8_copy_105 mU_0 ?_
      refine il6 dX8_copy_108 ?_
      refine al0 dX8_copy_110 ?_
      refine g_X8_35 dX8_copy_111 mU_0 ?_
      refine xt_bipush (24) dX8_copy_114 rfl ?_
      refine il1 dX8_copy_116 ?_
      refine xt_imul dX8_copy_117 ?_
      refine il2 dX8_copy_118 ?_
      refine xt_iadd dX8_copy_119 ?_
      refine il6 dX8_copy_120 ?_
      refine xt_iadd dX8_copy_122 ?_
      refine xt_lald ((24) * (s) + i + k) mU_8 (by omega) (ne_add (a := (24) * (s) + i) (b := k) (ne_add (a := (24) * (s)) (b := i) (ne_mul (a := 24) (b := s) rfl rfl) rfl) rfl) (by decide) dX8_copy_123 ?_
      refine xt_last (k) mU_9 (by omega) rfl (by decide) dX8_copy_124 ?_
      refine xt_heq mU_p9 ?_
      refine inc6 (nI (k + 1)) dX8_copy_125 (nI_1 _) (by decide) rfl ?_
      refine xt_goto 97 dX8_copy_128 rfl ?_
      exact ih (k + 1) (by omega) _ (by rw [tkR_s, ← ht1])
  refine il1 dX8_copy_0 ?_
  refine s_X8_203 dX8_copy_1 (cn_X8_isSheet _) ⟨lb rfl, lb rfl, lb rfl, lb rfl⟩ ?_
  refine xt_if_eq 14 dX8_copy_4 rfl (fun q => absurd q (fl1 ⟨nI_pos' (by omega), nI_le (b := 3) (by omega) (by decide)⟩)) (fun _ => ?_)
  refine il3 dX8_copy_7 ?_
  refine s_X8_203 dX8_copy_8 (cn_X8_isSheet _) ⟨lb rfl, lb rfl, lb rfl, lb rfl⟩ ?_
  refine xt_if_ne 17 dX8_copy_11 rfl (fun _ => ?_) (fun q => absurd q (fl1 ⟨nI_pos' (by omega), nI_le (b := 3) (by omega) (by decide)⟩))
  refine al0 dX8_copy_17 ?_
  refine g_X8_29 dX8_copy_18 mU_0 ?_
  refine il1 dX8_copy_21 ?_
  refine xt_iald (s) mU_6 (by omega) rfl (by decide) dX8_copy_22 ?_
  refine xt_if_lt 35 dX8_copy_23 rfl (fun q => absurd q hn) (fun _ => ?_)
  refine al0 dX8_copy_26 ?_
  refine g_X8_29 dX8_copy_27 mU_0 ?_
  refine il3 dX8_copy_30 ?_
  refine xt_iald (t) mU_6 (by omega) rfl (by decide) dX8_copy_31 ?_
  refine xt_if_ge 38 dX8_copy_32 rfl (fun _ => ?_) (fun q => absurd hn2 q)
  refine al0 dX8_copy_38 ?_
  refine g_X8_32 dX8_copy_39 mU_0 ?_
  refine il1 dX8_copy_42 ?_
  refine xt_iald (s) mU_7 (by omega) rfl (by decide) dX8_copy_43 ?_
  refine al0 dX8_copy_44 ?_
  refine g_X8_32 dX8_copy_45 mU_0 ?_
  refine il3 dX8_copy_48 ?_
  refine xt_iald (t) mU_7 (by omega) rfl (by decide) dX8_copy_49 ?_
  refine xt_icmp_eq 56 dX8_copy_50 rfl (fun _ => ?_) (fun q => absurd hc q)
  refine al0 dX8_copy_56 ?_
  refine il1 dX8_copy_57 ?_
  refine al0 dX8_copy_58 ?_
  refine g_X8_32 dX8_copy_59 mU_0 ?_
  refine il1 dX8_copy_62 ?_
  refine xt_iald (s) mU_7 (by omega) rfl (by decide) dX8_copy_63 ?_
  refine il2 dX8_copy_64 ?_
  refine il5 dX8_copy_65 ?_
  refine s_X8_209 dX8_copy_67 (cn_X8_against (s) (by omega) _ _ _) mU_0 ⟨lb rfl, lb rfl, lb rfl, lb rfl⟩ ?_
  refine xt_if_ne 91 dX8_copy_70 rfl (fun q => absurd h1 q) (fun _ => ?_)
  refine al0 dX8_copy_73 ?_
  refine il3 dX8_copy_74 ?_
  refine al0 dX8_copy_75 ?_
  refine g_X8_32 dX8_copy_76 mU_0 ?_
  refine il3 dX8_copy_79 ?_
  refine xt_iald (t) mU_7 (by omega) rfl (by decide) dX8_copy_80 ?_
  refine il4 dX8_copy_81 ?_
  refine il5 dX8_copy_83 ?_
  refine s_X8_209 dX8_copy_85 (cn_X8_against (t) (by omega) _ _ _) mU_0 ⟨lb rfl, lb rfl, lb rfl, lb rfl⟩ ?_
  refine xt_if_eq 94 dX8_copy_88 rfl (fun _ => ?_) (fun q => absurd h2 q)
  refine xt_iconst (0) dX8_copy_94 rfl ?_
  refine is6 dX8_copy_95 (by decide) rfl ?_
  exact lp1 z 0 (by omega) _ rfl
