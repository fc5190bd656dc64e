abbrev eM (M : Nat) (un iu td aT nu ab be : Int32) : ax_E := .inr (8, [.ref (M + 1), .int un, .int iu, .ref (M + 2), .int td, .ref (M + 3), .int aT, .int nu, .ref (M + 4), .int ab, .int be, .ref (M + 5), .ref (M + 6), .ref (M + 7), .ref (M + 8), .ref (M + 9)])
/-- the reference's cells over a heap h -/
def mU (h : ax_H) (M : Nat) (un iu td aT nu ab be : Int32) (w tp mv rd ms mn la : Nat → Int32) (it tk : Nat → Int64) : ax_H := fun j => if j = M then some (eM M un iu td aT nu ab be) else if j = M + 1 then some (ax_I 915 w) else if j = M + 2 then some (ax_I 140 tp) else if j = M + 3 then some (ax_I 3 mv) else if j = M + 4 then some (ax_I 48 rd) else if j = M + 5 then some (ax_I 18 ms) else if j = M + 6 then some (ax_I 4 mn) else if j = M + 7 then some (ax_I 4 la) else if j = M + 8 then some (ax_L 96 it) else if j = M + 9 then some (ax_L 24 tk) else h j
section MUS
variable {h : ax_H} {M : Nat} {un iu td aT nu ab be : Int32} {w tp mv rd ms mn la : Nat → Int32} {it tk : Nat → Int64}
theorem mU_0 : (mU h M un iu td aT nu ab be w tp mv rd ms mn la it tk) M = some (eM M un iu td aT nu ab be) := by simp [mU]
theorem mU_1 : (mU h M un iu td aT nu ab be w tp mv rd ms mn la it tk) (M + 1) = some (ax_I 915 w) := by simp [mU]
theorem mU_2 : (mU h M un iu td aT nu ab be w tp mv rd ms mn la it tk) (M + 2) = some (ax_I 140 tp) := by simp [mU]
theorem mU_3 : (mU h M un iu td aT nu ab be w tp mv rd ms mn la it tk) (M + 3) = some (ax_I 3 mv) := by simp [mU]
theorem mU_4 : (mU h M un iu td aT nu ab be w tp mv rd ms mn la it tk) (M + 4) = some (ax_I 48 rd) := by simp [mU]
theorem mU_5 : (mU h M un iu td aT nu ab be w tp mv rd ms mn la it tk) (M + 5) = some (ax_I 18 ms) := by simp [mU]
theorem mU_6 : (mU h M un iu td aT nu ab be w tp mv rd ms mn la it tk) (M + 6) = some (ax_I 4 mn) := by simp [mU]
theorem mU_7 : (mU h M un iu td aT nu ab be w tp mv rd ms mn la it tk) (M + 7) = some (ax_I 4 la) := by simp [mU]
theorem mU_8 : (mU h M un iu td aT nu ab be w tp mv rd ms mn la it tk) (M + 8) = some (ax_L 96 it) := by simp [mU]
theorem mU_9 : (mU h M un iu td aT nu ab be w tp mv rd ms mn la it tk) (M + 9) = some (ax_L 24 tk) := by simp [mU]
theorem mU_p0 {un2 iu2 td2 aT2 nu2 ab2 be2 : Int32} : hp (mU h M un iu td aT nu ab be w tp mv rd ms mn la it tk) M (eM M un2 iu2 td2 aT2 nu2 ab2 be2) = (mU h M (un2) (iu2) (td2) (aT2) (nu2) (ab2) (be2) w tp mv rd ms mn la it tk) := by
  funext j
  by_cases h1 : j = M
  · subst h1; simp [hp, mU]
  · simp [hp, mU, h1]
theorem mU_p1 {z : Nat → Int32} : hp (mU h M un iu td aT nu ab be w tp mv rd ms mn la it tk) (M + 1) (ax_I 915 z) = (mU h M un iu td aT nu ab be (z) tp mv rd ms mn la it tk) := by
  funext j
  by_cases h1 : j = M + 1
  · subst h1; simp [hp, mU]
  · simp [hp, mU, h1]
theorem mU_p2 {z : Nat → Int32} : hp (mU h M un iu td aT nu ab be w tp mv rd ms mn la it tk) (M + 2) (ax_I 140  z) = (mU h M un iu td aT nu ab be w (z) mv rd ms mn la it tk) := by
  funext j
  by_cases h1 : j = M + 2
  · subst h1; simp [hp, mU]
  · simp [hp, mU, h1]
theorem mU_p3 {z : Nat → Int32} : hp (mU h M un iu td aT nu ab be w tp mv rd ms mn la it tk) (M + 3) (ax_I 3  z) = (mU h M un iu td aT nu ab be w tp (z) rd ms mn la it tk) := by
  funext j
  by_cases h1 : j = M + 3
  · subst h1; simp [hp, mU]
  · simp [hp, mU, h1]
theorem mU_p4 {z : Nat → Int32} : hp (mU h M un iu td aT nu ab be w tp mv rd ms mn la it tk) (M + 4) (ax_I 48  z) = (mU h M un iu td aT nu ab be w tp mv (z) ms mn la it tk) := by
  funext j
  by_cases h1 : j = M + 4
  · subst h1; simp [hp, mU]
  · simp [hp, mU, h1]
theorem mU_p5 {z : Nat → Int32} : hp (mU h M un iu td aT nu ab be w tp mv rd ms mn la it tk) (M + 5) (ax_I 18  z) = (mU h M un iu td aT nu ab be w tp mv rd (z) mn la it tk) := by
  funext j
  by_cases h1 : j = M + 5
  · subst h1; simp [hp, mU]
  · simp [hp, mU, h1]
theorem mU_p6 {z : Nat → Int32} : hp (mU h M un iu td aT nu ab be w tp mv rd ms mn la it tk) (M + 6) (ax_I 4  z) = (mU h M un iu td aT nu ab be w tp mv rd ms (z) la it tk) := by
  funext j
  by_cases h1 : j = M + 6
  · subst h1; simp [hp, mU]
  · simp [hp, mU, h1]
theorem mU_p7 {z : Nat → Int32} : hp (mU h M un iu td aT nu ab be w tp mv rd ms mn la it tk) (M + 7) (ax_I 4  z) = (mU h M un iu td aT nu ab be w tp mv rd ms mn (z) it tk) := by
  funext j
  by_cases h1 : j = M + 7
  · subst h1; simp [hp, mU]
  · simp [hp, mU, h1]
theorem mU_p8 {z : Nat → Int64} : hp (mU h M un iu td aT nu ab be w tp mv rd ms mn la it tk) (M + 8) (ax_L 96  z) = (mU h M un iu td aT nu ab be w tp mv rd ms mn la (z) tk) := by
  funext j
  by_cases h1 : j = M + 8
  · subst h1; simp [hp, mU]
  · simp [hp, mU, h1]
theorem mU_p9 {z : Nat → Int64} : hp (mU h M un iu td aT nu ab be w tp mv rd ms mn la it tk) (M + 9) (ax_L 24  z) = (mU h M un iu td aT nu ab be w tp mv rd ms mn la it (z)) := by
  funext j
  by_cases h1 : j = M + 9
  · subst h1; simp [hp, mU]
  · simp [hp, mU, h1]
/-- fifteen rows of 61 numbers, as one row -/
def jn (W : Nat → Nat → Int32) : Nat → Int32 := fun j => W (j / 61) (j % 61)
theorem jn_at (W : Nat → Nat → Int32) {q c : Nat} (hc : c < 61) : jn W (61 * q + c) = W q c := by
  have h1 : (61 * q + c) / 61 = q := by omega
  have h2 : (61 * q + c) % 61 = c := by omega
  simp only [jn, h1, h2]
theorem jn_upd (W : Nat → Nat → Int32) {q c : Nat} (hc : c < 61) (v : Int32) : upd (jn W) (61 * q + c) v = jn (va_up W q (upd (W q) c v)) := by
  funext j
  by_cases hj : j = 61 * q + c
  · subst hj
    rw [jn_at _ hc]
    simp [upd, va_up]
  · have : ¬ (j / 61 = q ∧ j % 61 = c) := by omega
    by_cases h1 : j / 61 = q
    · have h2 : j % 61 ≠ c := fun e => this ⟨h1, e⟩
      simp [upd, jn, va_up, hj, h1, h2]
    · simp [upd, jn, va_up, hj, h1]
theorem up_up {α : Type} (W : Nat → α) (q : Nat) (r s : α) : va_up (va_up W q r) q s = va_up W q s := by
  funext j; by_cases hj : j = q <;> simp [va_up, hj]
theorem up_id {α : Type} (W : Nat → α) (q : Nat) : va_up W q (W q) = W := by
  funext j; by_cases hj : j = q
  · subst hj; simp [va_up]
  · simp [va_up, hj]
theorem jnw {W : Nat → Nat → Int32} {q c K : Nat} (hK : K = 61 * q + c) (hc : c < 61) : jn W K = W q c := by rw [hK]; exact jn_at W hc
theorem jnr {W : Nat → Nat → Int32} {q c K : Nat} {r : Nat → Int32} (hK : K = 61 * q + c) (hc : c < 61) : jn (va_up W q r) K = r c := by rw [hK, jn_at _ hc]; simp [va_up]
theorem mU_pw {W : Nat → Nat → Int32} {q c K : Nat} {v : Int32} (hK : K = 61 * q + c) (hc : c < 61) : hp (mU h M un iu td aT nu ab be (jn W) tp mv rd ms mn la it tk) (M + 1) (ax_I 915 (upd (jn W) K v)) = (mU h M un iu td aT nu ab be (jn (va_up W q (upd (W q) c v))) tp mv rd ms mn la it tk) := by
  rw [mU_p1, hK, jn_upd _ hc]
theorem mU_pr {W : Nat → Nat → Int32} {q c K : Nat} {v : Int32} {r : Nat → Int32} (hK : K = 61 * q + c) (hc : c < 61) : hp (mU h M un iu td aT nu ab be (jn (va_up W q r)) tp mv rd ms mn la it tk) (M + 1) (ax_I 915 (upd (jn (va_up W q r)) K v)) = (mU h M un iu td aT nu ab be (jn (va_up W q (upd r c v))) tp mv rd ms mn la it tk) := by
  rw [mU_pw hK hc, up_up]
  simp [va_up]
theorem mU_out {j : Nat} (hj : j < M ∨ M + 10 ≤ j) : (mU h M un iu td aT nu ab be w tp mv rd ms mn la it tk) j = h j := by
  have : j ≠ M ∧ j ≠ M + 1 ∧ j ≠ M + 2 ∧ j ≠ M + 3 ∧ j ≠ M + 4 ∧ j ≠ M + 5 ∧ j ≠ M + 6 ∧ j ≠ M + 7 ∧ j ≠ M + 8 ∧ j ≠ M + 9 := by omega
  simp [mU, this]
end MUS
/-- the row at f is copied to t, the first k of its numbers -/
def cpR (w : Nat → Int32) (f t : Nat) : Nat → Nat → Int32
  | 0 => w
  | k + 1 => upd (cpR w f t k) (t + k) (cpR w f t k (f + k))
set_option maxHeartbeats 400000 in
set_option maxRecDepth 100000 in
theorem cn_X8_copyRow0 {h : ax_H} {n : Nat} {M : Nat} {un iu td aT nu ab be : Int32} {w tp mv rd ms mn la : Nat → Int32} {it tk : Nat → Int64} (f t : Nat) (hf : f + 61 ≤ 915) (ht : t + 61 ≤ 915) : ax_C yX8_copyRow cX8_copyRow 4 none 0 0 0 [.ref M, .int (nI f), .int (nI t)] (mU h M un iu td aT nu ab be w tp mv rd ms mn la it tk) n (kv (mU h M un iu td aT nu ab be (cpR w f t 61) tp mv rd ms mn la it tk) n) := by
  refine ax_C.go RX8 "copyRow" [some (.ref M), some (.int (nI f)), some (.int (nI t)), none] rfl rfl pn_X8 (lb rfl) rfl (fun l G cy bs => ?_)
  have lp : ∀ (j k : Nat), k + j = 61 → ax_T l G cy bs (ax_rm 0 0 0) RX8 "copyRow" cX8_copyRow 4 none (kv (mU h M un iu td aT nu ab be (cpR w f t 61) tp mv rd ms mn la it tk) n) 0 0 2 [some (.ref M), some (.int (nI f)), some (.int (nI t)), some (.int (nI (k)))] [] (mU h M un iu td aT nu ab be (cpR w f t (k)) tp mv rd ms mn la it tk) n 0 0 := by
    intro j
    induction j with
    | zero =>
      intro k hk
      obtain rfl : k = 61 := by omega
      refine il3 dX8_copyRow_2 ?_
      refine xt_bipush (61) dX8_copyRow_3 rfl ?_
      refine xt_icmp_ge 30 dX8_copyRow_5 rfl (fun _ => ?_) (fun q => absurd (by decide) q)
      exact xt_ret dX8_copyRow_30 rfl (lb rfl) (lb rfl) ⟨rfl, rfl, rfl⟩
    | succ j ih =>
      intro k hk
      refine il3 dX8_copyRow_2 ?_
      refine xt_bipush (61) dX8_copyRow_3 rfl ?_
      refine xt_icmp_ge 30 dX8_copyRow_5 rfl (fun q => absurd q (nI_ge (a := k) (b := 61) (by omega) (by decide))) (fun _ => ?_)
      refine al0 dX8_copyRow_8 ?_
      refine g_X8_7 dX8_copyRow_9 mU_0 ?_
      refine il2 dX8_copyRow_12 ?_
      refine il3 dX8_copyRow_13 ?_
      refine xt_iadd dX8_copyRow_14 ?_
      refine al0 dX8_copyRow_15 ?_
      refine g_X8_7 dX8_copyRow_16 mU_0 ?_
      refine il1 dX8_copyRow_19 ?_
      refine il3 dX8_copyRow_20 ?_
      refine xt_iadd dX8_copyRow_21 ?_
      refine xt_iald (f + k) mU_1 (by omega) (ne_add (a := f) (b := k) rfl rfl) (by decide) dX8_copyRow_22 ?_
      refine xt_iast (t + k) mU_1 (by omega) (ne_add (a := t) (b := k) rfl rfl) (by decide) dX8_copyRow_23 ?_
      refine xt_heq mU_p1 ?_
      refine inc3 (nI (k + 1)) dX8_copyRow_24 (nI_1 _) (by decide) rfl ?_
      refine xt_goto 2 dX8_copyRow_27 rfl ?_
      exact ih (k + 1) (by omega)
  refine xt_iconst (0) dX8_copyRow_0 rfl ?_
  refine is3 dX8_copyRow_1 (by decide) rfl ?_
  exact lp 61 0 rfl
theorem cpR_eq (w : Nat → Int32) {f t : Nat} (hft : f + 61 ≤ t ∨ t + 61 ≤ f) : ∀ k, k ≤ 61 → cpR w f t k = fun j => if t ≤ j ∧ j < t + k then w (f + (j - t)) else w j
  | 0, _ => by funext j; simp only [cpR]; rw [if_neg (by omega)]
  | k + 1, hk => by
    have ih := cpR_eq w hft k (by omega)
    funext j
    simp only [cpR, ih, upd]
    by_cases hj : j = t + k
    · subst hj
      rw [if_pos rfl, if_neg (by omega), if_pos (by omega)]
      congr 1; omega
    · rw [if_neg hj]
      by_cases h2 : t ≤ j ∧ j < t + k
      · rw [if_pos h2, if_pos (by omega)]
      · rw [if_neg h2, if_neg (by omega)]
theorem cpR_row (W : Nat → Nat → Int32) {qf qt : Nat} (hq : qf ≠ qt) : cpR (jn W) (61 * qf) (61 * qt) 61 = jn (va_up W qt (W qf)) := by
  rw [cpR_eq (jn W) (by omega) 61 (by omega)]
  funext j
  by_cases h1 : j / 61 = qt
  · rw [if_pos (by omega)]
    have e1 : 61 * qf + (j - 61 * qt) = 61 * qf + j % 61 := by omega
    rw [e1, jn_at _ (by omega)]
    simp [jn, va_up, h1]
  · rw [if_neg (by omega)]
    simp [jn, va_up, h1]
theorem cn_X8_copyRow {h : ax_H} {n : Nat} {M : Nat} {un iu td aT nu ab be : Int32} {tp mv rd ms mn la : Nat → Int32} {W : Nat → Nat → Int32} {it tk : Nat → Int64} (qf qt : Nat) (hf : qf < 15) (ht : qt < 15) (hq : qf ≠ qt) : ax_C yX8_copyRow cX8_copyRow 4 none 0 0 0 [.ref M, .int (nI (61 * qf)), .int (nI (61 * qt))] (mU h M un iu td aT nu ab be (jn W) tp mv rd ms mn la it tk) n (kv (mU h M un iu td aT nu ab be (jn (va_up W qt (W qf))) tp mv rd ms mn la it tk) n) := by
  have := cn_X8_copyRow0 (h := h) (n := n) (M := M) (un := un) (iu := iu) (td := td) (aT := aT) (nu := nu) (ab := ab) (be := be) (w := jn W) (tp := tp) (mv := mv) (rd := rd) (ms := ms) (mn := mn) (la := la) (it := it) (tk := tk) (61 * qf) (61 * qt) (by omega) (by omega)
  rw [cpR_row W hq] at this
  exact this
def sAt (r : Nat → Int32) (c : Nat) : Int32 := rSteps (r c) (r (c + 1)) (r (c + 2)) (r (c + 3))
def sNow (r : Nat → Int32) : Int32 := if 0 ≤ r 5 then sAt r 5 - r 9 else 0
def sLeft (r : Nat → Int32) : Nat → Int32
  | 0 => sNow r
  | k + 1 => sLeft r k + sAt r (13 + 4 * k)
set_option maxHeartbeats 400000 in
set_option maxRecDepth 100000 in
theorem cn_X8_stepsAt {h : ax_H} {n : Nat} {M : Nat} {un iu td aT nu ab be : Int32} {tp mv rd ms mn la : Nat → Int32} {W : Nat → Nat → Int32} {r : Nat → Int32} {q : Nat} {it tk : Nat → Int64} (c : Nat) (hq : q < 15) (hc : c + 3 < 61) : ax_C yX8_stepsAt cX8_stepsAt 2 (some .int) 3 0 0 [.ref M, .int (nI (61 * q + c))] (mU h M un iu td aT nu ab be (jn (va_up W q r)) tp mv rd ms mn la it tk) n (ki (sAt r c) (mU h M un iu td aT nu ab be (jn (va_up W q r)) tp mv rd ms mn la it tk) n) := by
  refine ax_C.go RX8 "stepsAt" [some (.ref M), some (.int (nI (61 * q + c)))] rfl rfl pn_X8 (lb rfl) rfl (fun l G cy bs => ?_)
  refine al0 dX8_stepsAt_0 ?_
  refine g_X8_7 dX8_stepsAt_1 mU_0 ?_
  refine il1 dX8_stepsAt_4 ?_
  refine xt_iald (61 * q + c) mU_1 (by omega) rfl (by decide) dX8_stepsAt_5 ?_
  refine xt_top (congrArg Value.int (jnr (c := c) (by omega) (by omega))) ?_
  refine al0 dX8_stepsAt_6 ?_
  refine g_X8_7 dX8_stepsAt_7 mU_0 ?_
  refine il1 dX8_stepsAt_10 ?_
  refine xt_iconst (1) dX8_stepsAt_11 rfl ?_
  refine xt_iadd dX8_stepsAt_12 ?_
  refine xt_iald (61 * q + c + 1) mU_1 (by omega) (ne_add (a := 61 * q + c) (b := 1) rfl rfl) (by decide) dX8_stepsAt_13 ?_
  refine xt_top (congrArg Value.int (jnr (c := c + 1) (by omega) (by omega))) ?_
  refine al0 dX8_stepsAt_14 ?_
  refine g_X8_7 dX8_stepsAt_15 mU_0 ?_
  refine il1 dX8_stepsAt_18 ?_
  refine xt_iconst (2) dX8_stepsAt_19 rfl ?_
  refine xt_iadd dX8_stepsAt_20 ?_
  refine xt_iald (61 * q + c + 2) mU_1 (by omega) (ne_add (a := 61 * q + c) (b := 2) rfl rfl) (by decide) dX8_stepsAt_21 ?_
  refine xt_top (congrArg Value.int (jnr (c := c + 2) (by omega) (by omega))) ?_
  refine al0 dX8_stepsAt_22 ?_
  refine g_X8_7 dX8_stepsAt_23 mU_0 ?_
  refine il1 dX8_stepsAt_26 ?_
  refine xt_iconst (3) dX8_stepsAt_27 rfl ?_
  refine xt_iadd dX8_stepsAt_28 ?_
  refine xt_iald (61 * q + c + 3) mU_1 (by omega) (ne_add (a := 61 * q + c) (b := 3) rfl rfl) (by decide) dX8_stepsAt_29 ?_
  refine xt_top (congrArg Value.int (jnr (c := c + 3) (by omega) (by omega))) ?_
  refine s_X8_73 dX8_stepsAt_30 (cn_X8_stepsOf _ _ _ _) ⟨lb rfl, lb rfl, lb rfl, lb rfl⟩ ?_
  exact xt_iret dX8_stepsAt_33 rfl (lb rfl) (lb rfl) ⟨rfl, rfl, rfl⟩
set_option maxHeartbeats 400000 in
set_option maxRecDepth 100000 in
theorem cn_X8_stillNow {h : ax_H} {n : Nat} {M : Nat} {un iu td aT nu ab be : Int32} {tp mv rd ms mn la : Nat → Int32} {W : Nat → Nat → Int32} {r : Nat → Int32} {q : Nat} {it tk : Nat → Int64} (hq : q < 15) : ax_C yX8_stillNow cX8_stillNow 2 (some .int) 4 0 0 [.ref M, .int (nI (61 * q))] (mU h M un iu td aT nu ab be (jn (va_up W q r)) tp mv rd ms mn la it tk) n (ki (sNow r) (mU h M un iu td aT nu ab be (jn (va_up W q r)) tp mv rd ms mn la it tk) n) := by
  refine ax_C.go RX8 "stillNow" [some (.ref M), some (.int (nI (61 * q)))] rfl rfl pn_X8 (lb rfl) rfl (fun l G cy bs => ?_)
  refine al0 dX8_stillNow_0 ?_
  refine g_X8_7 dX8_stillNow_1 mU_0 ?_
  refine il1 dX8_stillNow_4 ?_
  refine xt_iconst (5) dX8_stillNow_5 rfl ?_
  refine xt_iadd dX8_stillNow_6 ?_
  refine xt_iald (61 * q + 5) mU_1 (by omega) (ne_add (a := 61 * q) (b := 5) rfl rfl) (by decide) dX8_stillNow_7 ?_
  refine xt_top (congrArg Value.int (jnr (c := 5) (by omega) (by omega))) ?_
  apply xj_if_ge 15 dX8_stillNow_8 rfl
  · intro k8
    refine ⟨fun c8 => ?_, fun c8 => ?_⟩
    · refine al0 dX8_stillNow_15 ?_
      refine il1 dX8_stillNow_16 ?_
      refine xt_iconst (5) dX8_stillNow_17 rfl ?_
      refine xt_iadd dX8_stillNow_18 ?_
      refine xt_eqv (nI (61 * q + 5)) (ne_add (a := 61 * q) (b := 5) rfl rfl) ?_
      refine s_X8_77 dX8_stillNow_19 (cn_X8_stepsAt (5) (by omega) (by omega)) mU_0 ⟨lb rfl, lb rfl, lb rfl, lb rfl⟩ ?_
      refine al0 dX8_stillNow_22 ?_
      refine g_X8_7 dX8_stillNow_23 mU_0 ?_
      refine il1 dX8_stillNow_26 ?_
      refine xt_bipush (9) dX8_stillNow_27 rfl ?_
      refine xt_iadd dX8_stillNow_29 ?_
      refine xt_iald (61 * q + 9) mU_1 (by omega) (ne_add (a := 61 * q) (b := 9) rfl rfl) (by decide) dX8_stillNow_30 ?_
      refine xt_top (congrArg Value.int (jnr (c := 9) (by omega) (by omega))) ?_
      refine xt_isub dX8_stillNow_31 ?_
      exact xt_it1 k8 c8
    · refine xt_iconst (0) dX8_stillNow_11 rfl ?_
      refine xt_goto 32 dX8_stillNow_12 rfl ?_
      exact xt_it2 k8 c8
  · skip
    exact xt_iret dX8_stillNow_32 rfl (lb rfl) (lb rfl) ⟨rfl, rfl, rfl⟩
set_option maxHeartbeats 400000 in
set_option maxRecDepth 100000 in
theorem cn_X8_leftOf {h : ax_H} {n : Nat} {M : Nat} {un iu td aT nu ab be : Int32} {tp mv rd ms mn la : Nat → Int32} {W : Nat → Nat → Int32} {r : Nat → Int32} {q : Nat} {it tk : Nat → Int64} (m : Nat) (hq : q < 15) (hm : r 12 = nI m) (hm2 : m ≤ 12) : ax_C yX8_leftOf cX8_leftOf 4 (some .int) 5 0 0 [.ref M, .int (nI (61 * q))] (mU h M un iu td aT nu ab be (jn (va_up W q r)) tp mv rd ms mn la it tk) n (ki (sLeft r m) (mU h M un iu td aT nu ab be (jn (va_up W q r)) tp mv rd ms mn la it tk) n) := by
  refine ax_C.go RX8 "leftOf" [some (.ref M), some (.int (nI (61 * q))), none, none] rfl rfl pn_X8 (lb rfl) rfl (fun l G cy bs => ?_)
  have lp : ∀ (j k : Nat), k + j = m → ax_T l G cy bs (ax_rm 5 0 0) RX8 "leftOf" cX8_leftOf 4 (some .int) (ki (sLeft r m) (mU h M un iu td aT nu ab be (jn (va_up W q r)) tp mv rd ms mn la it tk) n) 0 0 8 [some (.ref M), some (.int (nI (61 * q))), some (.int (sLeft r (k))), some (.int (nI (k)))] [] (mU h M un iu td aT nu ab be (jn (va_up W q r)) tp mv rd ms mn la it tk) n 0 0 := by
    intro j
    induction j with
    | zero =>
      intro k hk
      obtain rfl : k = m := by omega
      refine il3 dX8_leftOf_8 ?_
      refine al0 dX8_leftOf_9 ?_
      refine g_X8_7 dX8_leftOf_10 mU_0 ?_
      refine il1 dX8_leftOf_13 ?_
      refine xt_bipush (12) dX8_leftOf_14 rfl ?_
      refine xt_iadd dX8_leftOf_16 ?_
      refine xt_iald (61 * q + 12) mU_1 (by omega) (ne_add (a := 61 * q) (b := 12) rfl rfl) (by decide) dX8_leftOf_17 ?_
      refine xt_top (congrArg Value.int (jnr (c := 12) (by omega) (by omega))) ?_
      refine xt_icmp_ge 42 dX8_leftOf_18 rfl (fun _ => ?_) (fun q => absurd (by rw [hm]; exact nI_le (Nat.le_refl _) (by omega)) q)
      refine il2 dX8_leftOf_42 ?_
      exact xt_iret dX8_leftOf_43 rfl (lb rfl) (lb rfl) ⟨rfl, rfl, rfl⟩
    | succ j ih =>
      intro k hk
      refine il3 dX8_leftOf_8 ?_
      refine al0 dX8_leftOf_9 ?_
      refine g_X8_7 dX8_leftOf_10 mU_0 ?_
      refine il1 dX8_leftOf_13 ?_
      refine xt_bipush (12) dX8_leftOf_14 rfl ?_
      refine xt_iadd dX8_leftOf_16 ?_
      refine xt_iald (61 * q + 12) mU_1 (by omega) (ne_add (a := 61 * q) (b := 12) rfl rfl) (by decide) dX8_leftOf_17 ?_
      refine xt_top (congrArg Value.int (jnr (c := 12) (by omega) (by omega))) ?_
      refine xt_icmp_ge 42 dX8_leftOf_18 rfl (fun q => absurd q (by rw [hm]; exact nI_ge (by omega) (by omega))) (fun _ => ?_)
      refine il2 dX8_leftOf_21 ?_
      refine al0 dX8_leftOf_22 ?_
      refine il1 dX8_leftOf_23 ?_
      refine xt_bipush (13) dX8_leftOf_24 rfl ?_
      refine xt_iadd dX8_leftOf_26 ?_
      refine xt_iconst (4) dX8_leftOf_27 rfl ?_
      refine il3 dX8_leftOf_28 ?_
      refine xt_imul dX8_leftOf_29 ?_
      refine xt_iadd dX8_leftOf_30 ?_
      refine xt_eqv (nI (61 * q + (13 + 4 * k))) ((ne_add (a := 61 * q + 13) (b := (4) * (k)) (ne_add (a := 61 * q) (b := 13) rfl rfl) (ne_mul (a := 4) (b := k) rfl rfl)).trans (congrArg nI (by omega))) ?_
      refine s_X8_77 dX8_leftOf_31 (cn_X8_stepsAt ((13 + 4 * k)) (by omega) (by omega)) mU_0 ⟨lb rfl, lb rfl, lb rfl, lb rfl⟩ ?_
      refine xt_iadd dX8_leftOf_34 ?_
      refine is2 dX8_leftOf_35 (by decide) rfl ?_
      refine inc3 (nI (k + 1)) dX8_leftOf_36 (nI_1 _) (by decide) rfl ?_
      refine xt_goto 8 dX8_leftOf_39 rfl ?_
      exact ih (k + 1) (by omega)
  refine al0 dX8_leftOf_0 ?_
  refine il1 dX8_leftOf_1 ?_
  refine s_X8_80 dX8_leftOf_2 (cn_X8_stillNow (by omega)) mU_0 ⟨lb rfl, lb rfl, lb rfl, lb rfl⟩ ?_
  refine is2 dX8_leftOf_5 (by decide) rfl ?_
  refine xt_iconst (0) dX8_leftOf_6 rfl ?_
  refine is3 dX8_leftOf_7 (by decide) rfl ?_
  exact lp m 0 (by omega)
set_option maxHeartbeats 400000 in
set_option maxRecDepth 100000 in
theorem cn_X8_goes {h : ax_H} {n : Nat} {M : Nat} {un iu td aT nu ab be : Int32} {tp mv rd ms mn la : Nat → Int32} {W : Nat → Nat → Int32} {r : Nat → Int32} {q : Nat} {it tk : Nat → Int64} (hq : q < 15) (a : Nat) (ha : a < 3) (by_ : Int32) : ax_C yX8_goes cX8_goes 4 none 0 0 0 [.ref M, .int (nI (61 * q)), .int (nI a), .int by_] (mU h M un iu td aT nu ab be (jn (va_up W q r)) tp mv rd ms mn la it tk) n (kv (mU h M un iu td aT nu ab be (jn (va_up W q (upd r a (r a + by_)))) tp (upd mv a (mv a + by_)) rd ms mn la it tk) n) := by
  refine ax_C.go RX8 "goes" [some (.ref M), some (.int (nI (61 * q))), some (.int (nI a)), some (.int by_)] rfl rfl pn_X8 (lb rfl) rfl (fun l G cy bs => ?_)
  refine al0 dX8_goes_0 ?_
  refine g_X8_7 dX8_goes_1 mU_0 ?_
  refine il1 dX8_goes_4 ?_
  refine il2 dX8_goes_5 ?_
  refine xt_iadd dX8_goes_6 ?_
  refine xt_dup2 dX8_goes_7 rfl rfl ?_
  refine xt_iald (61 * q + a) mU_1 (by omega) (ne_add (a := 61 * q) (b := a) rfl rfl) (by decide) dX8_goes_8 ?_
  refine xt_top (congrArg Value.int (jnr (c := a) (by omega) (by omega))) ?_
  refine il3 dX8_goes_9 ?_
  refine xt_iadd dX8_goes_10 ?_
  refine xt_iast (61 * q + a) mU_1 (by omega) (ne_add (a := 61 * q) (b := a) rfl rfl) (by decide) dX8_goes_11 ?_
  refine xt_heq (mU_pr (c := a) (by omega) (by omega)) ?_
  refine al0 dX8_goes_12 ?_
  refine g_X8_20 dX8_goes_13 mU_0 ?_
  refine il2 dX8_goes_16 ?_
  refine xt_dup2 dX8_goes_17 rfl rfl ?_
  refine xt_iald (a) mU_3 (by omega) rfl (by decide) dX8_goes_18 ?_
  refine il3 dX8_goes_19 ?_
  refine xt_iadd dX8_goes_20 ?_
  refine xt_iast (a) mU_3 (by omega) rfl (by decide) dX8_goes_21 ?_
  refine xt_heq mU_p3 ?_
  exact xt_ret dX8_goes_22 rfl (lb rfl) (lb rfl) ⟨rfl, rfl, rfl⟩
abbrev rT (r : Nat → Int32) : Int32 := rTurns (r 6) (r (6 + 1)) (r (6 + 2))
/-- behind j axes of a step of a line: the row, what is moved -/
def lnS (t k : Int32) (r mv : Nat → Int32) : Nat → (Nat → Int32) × (Nat → Int32)
  | 0 => (r, mv)
  | j + 1 => (upd (lnS t k r mv j).1 j ((lnS t k r mv j).1 j + (rGone ((lnS t k r mv j).1 5) ((lnS t k r mv j).1 (6 + j)) t k - rGone ((lnS t k r mv j).1 5) ((lnS t k r mv j).1 (6 + j)) t (k - 1))), upd (lnS t k r mv j).2 j ((lnS t k r mv j).2 j + (rGone ((lnS t k r mv j).1 5) ((lnS t k r mv j).1 (6 + j)) t k - rGone ((lnS t k r mv j).1 5) ((lnS t k r mv j).1 (6 + j)) t (k - 1))))
set_option maxHeartbeats 400000 in
set_option maxRecDepth 100000 in
theorem cn_X8_line {h : ax_H} {n : Nat} {M : Nat} {un iu td aT nu ab be : Int32} {tp mv rd ms mn la : Nat → Int32} {W : Nat → Nat → Int32} {r : Nat → Int32} {q : Nat} {it tk : Nat → Int64} (hq : q < 15) (ht : ¬ 2 * rT r = 0) : ax_C yX8_line cX8_line 6 none 2 0 0 [.ref M, .int (nI (61 * q))] (mU h M un iu td aT nu ab be (jn (va_up W q r)) tp mv rd ms mn la it tk) n (kv (mU h M un iu td aT nu ab be (jn (va_up W q (lnS (rT r) (r 9 + 1) r mv 3).1)) tp ((lnS (rT r) (r 9 + 1) r mv 3).2) rd ms mn la it tk) n) := by
  refine ax_C.go RX8 "line" [some (.ref M), some (.int (nI (61 * q))), none, none, none, none] rfl rfl pn_X8 (lb rfl) rfl (fun l G cy bs => ?_)
  have lp : ∀ (j k : Nat), k + j = 3 → ax_T l G cy bs (ax_rm 2 0 0) RX8 "line" cX8_line 6 none (kv (mU h M un iu td aT nu ab be (jn (va_up W q (lnS (rT r) (r 9 + 1) r mv 3).1)) tp ((lnS (rT r) (r 9 + 1) r mv 3).2) rd ms mn la it tk) n) 0 0 47 [some (.ref M), some (.int (nI (61 * q))), some (.int (nI (61 * q + 6))), some (.int (rT r)), some (.int (r 9 + 1)), some (.int (nI (k)))] [] (mU h M un iu td aT nu ab be (jn (va_up W q (lnS (rT r) (r 9 + 1) r mv (k)).1)) tp ((lnS (rT r) (r 9 + 1) r mv (k)).2) rd ms mn la it tk) n 0 0 := by
    intro j
    induction j with
    | zero =>
      intro k hk
      obtain rfl : k = 3 := by omega
      refine il5 dX8_line_47 ?_
      refine xt_iconst (3) dX8_line_49 rfl ?_
      refine xt_icmp_ge 115 dX8_line_50 rfl (fun _ => ?_) (fun q => absurd (by decide) q)
      exact xt_ret dX8_line_115 rfl (lb rfl) (lb rfl) ⟨rfl, rfl, rfl⟩
    | succ j ih =>
      intro k hk
      refine il5 dX8_line_47 ?_
      refine xt_iconst (3) dX8_line_49 rfl ?_
      refine xt_icmp_ge 115 dX8_line_50 rfl (fun q => absurd q (nI_ge (a := k) (b := 3) (by omega) (by decide))) (fun _ => ?_)
      refine al0 dX8_line_53 ?_
      refine il1 dX8_line_54 ?_
      refine il5 dX8_line_55 ?_
      refine al0 dX8_line_57 ?_
      refine g_X8_7 dX8_line_58 mU_0 ?_
      refine il1 dX8_line_61 ?_
      refine xt_iconst (5) dX8_line_62 rfl ?_
      refine xt_iadd dX8_line_63 ?_
      refine xt_iald (61 * q + 5) mU_1 (by omega) (ne_add (a := 61 * q) (b := 5) rfl rfl) (by decide) dX8_line_64 ?_
      refine xt_top (congrArg Value.int (jnr (c := 5) (by omega) (by omega))) ?_
      refine al0 dX8_line_65 ?_
      refine g_X8_7 dX8_line_66 mU_0 ?_
      refine il2 dX8_line_69 ?_
      refine il5 dX8_line_70 ?_
      refine xt_iadd dX8_line_72 ?_
      refine xt_iald (61 * q + 6 + k) mU_1 (by omega) (ne_add (a := 61 * q + 6) (b := k) rfl rfl) (by decide) dX8_line_73 ?_
      refine xt_top (congrArg Value.int (jnr (c := 6 + k) (by omega) (by omega))) ?_
      refine il3 dX8_line_74 ?_
      refine il4 dX8_line_75 ?_
      refine s_X8_83 dX8_line_77 (cn_X8_gone _ _ _ _ ht) ⟨lb rfl, lb rfl, lb rfl, lb rfl⟩ ?_
      refine al0 dX8_line_80 ?_
      refine g_X8_7 dX8_line_81 mU_0 ?_
      refine il1 dX8_line_84 ?_
      refine xt_iconst (5) dX8_line_85 rfl ?_
      refine xt_iadd dX8_line_86 ?_
      refine xt_iald (61 * q + 5) mU_1 (by omega) (ne_add (a := 61 * q) (b := 5) rfl rfl) (by decide) dX8_line_87 ?_
      refine xt_top (congrArg Value.int (jnr (c := 5) (by omega) (by omega))) ?_
      refine al0 dX8_line_88 ?_
      refine g_X8_7 dX8_line_89 mU_0 ?_
      refine il2 dX8_line_92 ?_
      refine il5 dX8_line_93 ?_
      refine xt_iadd dX8_line_95 ?_
      refine xt_iald (61 * q + 6 + k) mU_1 (by omega) (ne_add (a := 61 * q + 6) (b := k) rfl rfl) (by decide) dX8_line_96 ?_
      refine xt_top (congrArg Value.int (jnr (c := 6 + k) (by omega) (by omega))) ?_
      refine il3 dX8_line_97 ?_
      refine il4 dX8_line_98 ?_
      refine xt_iconst (1) dX8_line_100 rfl ?_
      refine xt_isub dX8_line_101 ?_
      refine s_X8_83 dX8_line_102 (cn_X8_gone _ _ _ _ ht) ⟨lb rfl, lb rfl, lb rfl, lb rfl⟩ ?_
      refine xt_isub dX8_line_105 ?_
      refine s_X8_86 dX8_line_106 (cn_X8_goes (by omega) (k) (by omega) _) mU_0 ⟨lb rfl, lb rfl, lb rfl, lb rfl⟩ ?_
      refine inc5 (nI (k + 1)) dX8_line_109 (nI_1 _) (by decide) rfl ?_
      refine xt_goto 47 dX8_line_112 rfl ?_
      exact ih (k + 1) (by omega)
  refine il1 dX8_line_0 ?_
  refine xt_bipush (6) dX8_line_1 rfl ?_
  refine xt_iadd dX8_line_3 ?_
  refine xt_eqv (nI (61 * q + 6)) (ne_add (a := 61 * q) (b := 6) rfl rfl) ?_
  refine is2 dX8_line_4 (by decide) rfl ?_
  refine al0 dX8_line_5 ?_
  refine g_X8_7 dX8_line_6 mU_0 ?_
  refine il2 dX8_line_9 ?_
  refine xt_iald (61 * q + 6) mU_1 (by omega) rfl (by decide) dX8_line_10 ?_
  refine xt_top (congrArg Value.int (jnr (c := 6) (by omega) (by omega))) ?_
  refine al0 dX8_line_11 ?_
  refine g_X8_7 dX8_line_12 mU_0 ?_
  refine il2 dX8_line_15 ?_
  refine xt_iconst (1) dX8_line_16 rfl ?_
  refine xt_iadd dX8_line_17 ?_
  refine xt_iald (61 * q + 6 + 1) mU_1 (by omega) (ne_add (a := 61 * q + 6) (b := 1) rfl rfl) (by decide) dX8_line_18 ?_
  refine xt_top (congrArg Value.int (jnr (c := 6 + 1) (by omega) (by omega))) ?_
  refine al0 dX8_line_19 ?_
  refine g_X8_7 dX8_line_20 mU_0 ?_
  refine il2 dX8_line_23 ?_
  refine xt_iconst (2) dX8_line_24 rfl ?_
  refine xt_iadd dX8_line_25 ?_
  refine xt_iald (61 * q + 6 + 2) mU_1 (by omega) (ne_add (a := 61 * q + 6) (b := 2) rfl rfl) (by decide) dX8_line_26 ?_
  refine xt_top (congrArg Value.int (jnr (c := 6 + 2) (by omega) (by omega))) ?_
  refine s_X8_69 dX8_line_27 (cn_X8_turnsOf _ _ _) ⟨lb rfl, lb rfl, lb rfl, lb rfl⟩ ?_
  refine is3 dX8_line_30 (by decide) rfl ?_
  refine al0 dX8_line_31 ?_
  refine g_X8_7 dX8_line_32 mU_0 ?_
  refine il1 dX8_line_35 ?_
  refine xt_bipush (9) dX8_line_36 rfl ?_
  refine xt_iadd dX8_line_38 ?_
  refine xt_iald (61 * q + 9) mU_1 (by omega) (ne_add (a := 61 * q) (b := 9) rfl rfl) (by decide) dX8_line_39 ?_
  refine xt_top (congrArg Value.int (jnr (c := 9) (by omega) (by omega))) ?_
  refine xt_iconst (1) dX8_line_40 rfl ?_
  refine xt_iadd dX8_line_41 ?_
  refine is4 dX8_line_42 (by decide) rfl ?_
  refine xt_iconst (0) dX8_line_44 rfl ?_
  refine is5 dX8_line_45 (by decide) rfl ?_
  exact lp 3 0 rfl
theorem inc_m1 (x : Int32) : x + Int32.ofInt (-1) = x - 1 := by rw [Int32.sub_eq_add_neg]; rfl
abbrev eS : Type := (Nat → Int32) × (Nat → Int32) × Int32
/-- an axis of a turn of an even one: the row, what is moved, how many are left -/
def evS (t k : Int32) (j : Nat) (s : eS) : eS :=
  if rGone 2 (s.1 (6 + j)) t k - rGone 2 (s.1 (6 + j)) t (k - 1) = 0 then s
  else (upd s.1 j (s.1 j + (if s.2.2 = 0 then rGone 2 (s.1 (6 + j)) t k - rGone 2 (s.1 (6 + j)) t (k - 1) else 0)), upd s.2.1 j (s.2.1 j + (if s.2.2 = 0 then rGone 2 (s.1 (6 + j)) t k - rGone 2 (s.1 (6 + j)) t (k - 1) else 0)), s.2.2 - 1)
def evA (t k : Int32) (s : eS) : Nat → eS
  | 0 => s
  | j + 1 => evS t k j (evA t k s j)
def evB (t : Int32) (s : eS) : Nat → eS
  | 0 => s
  | i + 1 => evA t (nI (i + 1)) (evB t s i) 3
theorem evS_z {t k : Int32} {j : Nat} {s : eS} (h : rGone 2 (s.1 (6 + j)) t k - rGone 2 (s.1 (6 + j)) t (k - 1) = 0) : evS t k j s = s := by unfold evS; rw [if_pos h]
theorem evS_n {t k : Int32} {j : Nat} {s : eS} (h : ¬ rGone 2 (s.1 (6 + j)) t k - rGone 2 (s.1 (6 + j)) t (k - 1) = 0) : evS t k j s = (upd s.1 j (s.1 j + (if s.2.2 = 0 then rGone 2 (s.1 (6 + j)) t k - rGone 2 (s.1 (6 + j)) t (k - 1) else 0)), upd s.2.1 j (s.2.1 j + (if s.2.2 = 0 then rGone 2 (s.1 (6 + j)) t k - rGone 2 (s.1 (6 + j)) t (k - 1) else 0)), s.2.2 - 1) := by unfold evS; rw [if_neg h]
theorem evB_s (t : Int32) (s : eS) (i : Nat) : evB t s (i + 1) = evA t (nI (i + 1)) (evB t s i) 3 := rfl
theorem evA_s (t k : Int32) (s : eS) (j : Nat) : evA t k s (j + 1) = evS t k j (evA t k s j) := rfl
set_option maxHeartbeats 400000 in
set_option maxRecDepth 100000 in
theorem cn_X8_even {h : ax_H} {n : Nat} {M : Nat} {un iu td aT nu ab be : Int32} {tp mv rd ms mn la : Nat → Int32} {W : Nat → Nat → Int32} {r : Nat → Int32} {q : Nat} {it tk : Nat → Int64} (hq : q < 15) (ht : ¬ 2 * rT r = 0) (tn : Nat) (htn : rT r = nI tn) (htl : tn < 1000) : ax_C yX8_even cX8_even 8 none 2 0 0 [.ref M, .int (nI (61 * q))] (mU h M un iu td aT nu ab be (jn (va_up W q r)) tp mv rd ms mn la it tk) n (kv (mU h M un iu td aT nu ab be (jn (va_up W q (evB (rT r) (r, mv, r 9) tn).1)) tp ((evB (rT r) (r, mv, r 9) tn).2.1) rd ms mn la it tk) n) := by
  refine ax_C.go RX8 "even" [some (.ref M), some (.int (nI (61 * q))), none, none, none, none, none, none] rfl rfl pn_X8 (lb rfl) rfl (fun l G cy bs => ?_)
  have lpO : ∀ (d i : Nat), i + d = tn → ∀ (A B : Option Value) (r1 mv1 : Nat → Int32) (lf : Int32), (r1, mv1, lf) = evB (rT r) (r, mv, r 9) i → ax_T l G cy bs (ax_rm 2 0 0) RX8 "even" cX8_even 8 none (kv (mU h M un iu td aT nu ab be (jn (va_up W q (evB (rT r) (r, mv, r 9) tn).1)) tp ((evB (rT r) (r, mv, r 9) tn).2.1) rd ms mn la it tk) n) 0 0 45 [some (.ref M), some (.int (nI (61 * q))), some (.int (nI (61 * q + 6))), some (.int (rT r)), some (.int lf), some (.int (nI (i + 1))), A, B] [] (mU h M un iu td aT nu ab be (jn (va_up W q r1)) tp (mv1) rd ms mn la it tk) n 0 0 := by
    intro d
    induction d with
    | zero =>
      intro i hi A B r1 mv1 lf hs
      obtain rfl : i = tn := by omega
      refine il5 dX8_even_45 ?_
      refine il3 dX8_even_47 ?_
      refine xt_icmp_gt 135 dX8_even_48 rfl (fun _ => ?_) (fun q => absurd (by rw [htn]; exact nI_lt (by omega) (by omega)) q)
      exact xt_ret dX8_even_135 rfl (lb rfl) (lb rfl) ⟨rfl, by rw [← hs], rfl⟩
    | succ d ihO =>
      intro i hi A B r0 mv0 lf0 hs0
      have lpI : ∀ (e j : Nat), j + e = 3 → ∀ (B : Option Value) (r1 mv1 : Nat → Int32) (lf : Int32), (r1, mv1, lf) = evA (rT r) (nI (i + 1)) (r0, mv0, lf0) j → ax_T l G cy bs (ax_rm 2 0 0) RX8 "even" cX8_even 8 none (kv (mU h M un iu td aT nu ab be (jn (va_up W q (evB (rT r) (r, mv, r 9) tn).1)) tp ((evB (rT r) (r, mv, r 9) tn).2.1) rd ms mn la it tk) n) 0 0 54 [some (.ref M), some (.int (nI (61 * q))), some (.int (nI (61 * q + 6))), some (.int (rT r)), some (.int lf), some (.int (nI (i + 1))), some (.int (nI j)), B] [] (mU h M un iu td aT nu ab be (jn (va_up W q r1)) tp (mv1) rd ms mn la it tk) n 0 0 := by
        intro e
        induction e with
        | zero =>
          intro j hj B r1 mv1 lf hs
          obtain rfl : j = 3 := by omega
          refine il6 dX8_even_54 ?_
          refine xt_iconst (3) dX8_even_56 rfl ?_
          refine xt_icmp_ge 129 dX8_even_57 rfl (fun _ => ?_) (fun q => absurd (by decide) q)
          refine inc5 (nI (i + 1 + 1)) dX8_even_129 (nI_1 _) (by decide) rfl ?_
          refine xt_goto 45 dX8_even_132 rfl ?_
          exact ihO (i + 1) (by omega) _ _ _ _ _ (by rw [evB_s, ← hs0]; exact hs)
        | succ e ihI =>
          intro j hj B r1 mv1 lf hs
          refine il6 dX8_even_54 ?_
          refine xt_iconst (3) dX8_even_56 rfl ?_
          refine xt_icmp_ge 129 dX8_even_57 rfl (fun q => absurd q (nI_ge (a := j) (b := 3) (by omega) (by decide))) (fun _ => ?_)
          refine xt_iconst (2) dX8_even_60 rfl ?_
          refine al0 dX8_even_61 ?_
          refine g_X8_7 dX8_even_62 mU_0 ?_
          refine il2 dX8_even_65 ?_
          refine il6 dX8_even_66 ?_
          refine xt_iadd dX8_even_68 ?_
          refine xt_iald (61 * q + 6 + j) mU_1 (by omega) (ne_add (a := 61 * q + 6) (b := j) rfl rfl) (by decide) dX8_even_69 ?_
          refine xt_top (congrArg Value.int (jnr (c := 6 + j) (by omega) (by omega))) ?_
          refine il3 dX8_even_70 ?_
          refine il5 dX8_even_71 ?_
          refine s_X8_83 dX8_even_73 (cn_X8_gone _ _ _ _ ht) ⟨lb rfl, lb rfl, lb rfl, lb rfl⟩ ?_
          refine xt_iconst (2) dX8_even_76 rfl ?_
          refine al0 dX8_even_77 ?_
          refine g_X8_7 dX8_even_78 mU_0 ?_
          refine il2 dX8_even_81 ?_
          refine il6 dX8_even_82 ?_
          refine xt_iadd dX8_even_84 ?_
          refine xt_iald (61 * q + 6 + j) mU_1 (by omega) (ne_add (a := 61 * q + 6) (b := j) rfl rfl) (by decide) dX8_even_85 ?_
          refine xt_top (congrArg Value.int (jnr (c := 6 + j) (by omega) (by omega))) ?_
          refine il3 dX8_even_86 ?_
          refine il5 dX8_even_87 ?_
          refine xt_iconst (1) dX8_even_89 rfl ?_
          refine xt_isub dX8_even_90 ?_
          refine s_X8_83 dX8_even_91 (cn_X8_gone _ _ _ _ ht) ⟨lb rfl, lb rfl, lb rfl, lb rfl⟩ ?_
          refine xt_isub dX8_even_94 ?_
          refine is7 dX8_even_95 (by decide) rfl ?_
          refine il7 dX8_even_97 ?_
          refine xt_if_eq 123 dX8_even_99 rfl (fun c99 => ?_) (fun c99 => ?_)
          · refine inc6 (nI (j + 1)) dX8_even_123 (nI_1 _) (by decide) rfl ?_
            refine xt_goto 54 dX8_even_126 rfl ?_
            exact ihI (j + 1) (by omega) _ _ _ _ (by rw [evA_s, ← hs]; exact (evS_z (t := rT r) (k := nI (i + 1)) (j := j) (s := (r1, mv1, lf)) c99).symm)
          · refine al0 dX8_even_102 ?_
            refine il1 dX8_even_103 ?_
            refine il6 dX8_even_104 ?_
            refine il4 dX8_even_106 ?_
            apply xj_if_ne 116 dX8_even_108 rfl
            · intro k108
              refine ⟨fun c108 => ?_, fun c108 => ?_⟩
              · refine xt_iconst (0) dX8_even_116 rfl ?_
                exact xt_in1 k108 c108
              · refine il7 dX8_even_111 ?_
                refine xt_goto 117 dX8_even_113 rfl ?_
                exact xt_in2 k108 c108
            · skip
              refine s_X8_86 dX8_even_117 (cn_X8_goes (by omega) (j) (by omega) _) mU_0 ⟨lb rfl, lb rfl, lb rfl, lb rfl⟩ ?_
              refine inc4 _ dX8_even_120 (inc_m1 _) (by decide) rfl ?_
              refine inc6 (nI (j + 1)) dX8_even_123 (nI_1 _) (by decide) rfl ?_
              refine xt_goto 54 dX8_even_126 rfl ?_
              exact ihI (j + 1) (by omega) _ _ _ _ (by rw [evA_s, ← hs]; exact (evS_n (t := rT r) (k := nI (i + 1)) (j := j) (s := (r1, mv1, lf)) c99).symm)
      refine il5 dX8_even_45 ?_
      refine il3 dX8_even_47 ?_
      refine xt_icmp_gt 135 dX8_even_48 rfl (fun q => absurd q (by rw [htn]; exact nI_nlt (by omega) (by omega))) (fun _ => ?_)
      refine xt_iconst (0) dX8_even_51 rfl ?_
      refine is6 dX8_even_52 (by decide) rfl ?_
      exact lpI 3 0 rfl _ _ _ _ rfl
  refine il1 dX8_even_0 ?_
  refine xt_bipush (6) dX8_even_1 rfl ?_
  refine xt_iadd dX8_even_3 ?_
  refine xt_eqv (nI (61 * q + 6)) (ne_add (a := 61 * q) (b := 6) rfl rfl) ?_
  refine is2 dX8_even_4 (by decide) rfl ?_
  refine al0 dX8_even_5 ?_
  refine g_X8_7 dX8_even_6 mU_0 ?_
  refine il2 dX8_even_9 ?_
  refine xt_iald (61 * q + 6) mU_1 (by omega) rfl (by decide) dX8_even_10 ?_
  refine xt_top (congrArg Value.int (jnr (c := 6) (by omega) (by omega))) ?_
  refine al0 dX8_even_11 ?_
  refine g_X8_7 dX8_even_12 mU_0 ?_
  refine il2 dX8_even_15 ?_
  refine xt_iconst (1) dX8_even_16 rfl ?_
  refine xt_iadd dX8_even_17 ?_
  refine xt_iald (61 * q + 6 + 1) mU_1 (by omega) (ne_add (a := 61 * q + 6) (b := 1) rfl rfl) (by decide) dX8_even_18 ?_
  refine xt_top (congrArg Value.int (jnr (c := 6 + 1) (by omega) (by omega))) ?_
  refine al0 dX8_even_19 ?_
  refine g_X8_7 dX8_even_20 mU_0 ?_
  refine il2 dX8_even_23 ?_
  refine xt_iconst (2) dX8_even_24 rfl ?_
  refine xt_iadd dX8_even_25 ?_
  refine xt_iald (61 * q + 6 + 2) mU_1 (by omega) (ne_add (a := 61 * q + 6) (b := 2) rfl rfl) (by decide) dX8_even_26 ?_
  refine xt_top (congrArg Value.int (jnr (c := 6 + 2) (by omega) (by omega))) ?_
  refine s_X8_69 dX8_even_27 (cn_X8_turnsOf _ _ _) ⟨lb rfl, lb rfl, lb rfl, lb rfl⟩ ?_
  refine is3 dX8_even_30 (by decide) rfl ?_
  refine al0 dX8_even_31 ?_
  refine g_X8_7 dX8_even_32 mU_0 ?_
  refine il1 dX8_even_35 ?_
  refine xt_bipush (9) dX8_even_36 rfl ?_
  refine xt_iadd dX8_even_38 ?_
  refine xt_iald (61 * q + 9) mU_1 (by omega) (ne_add (a := 61 * q) (b := 9) rfl rfl) (by decide) dX8_even_39 ?_
  refine xt_top (congrArg Value.int (jnr (c := 9) (by omega) (by omega))) ?_
  refine is4 dX8_even_40 (by decide) rfl ?_
  refine xt_iconst (1) dX8_even_42 rfl ?_
  refine is5 dX8_even_43 (by decide) rfl ?_
  exact lpO tn 0 (by omega) _ _ _ _ _ rfl
