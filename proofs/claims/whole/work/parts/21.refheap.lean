abbrev eM (M : Nat) (un iu td aT nu ab be : Int32) : ax_E := .inr (8, [.ref (M + 1), .int un, .int iu, .ref (M + 2), .int td, .ref (M + 3), .int aT, .int nu, .ref (M + 4), .int ab, .int be, .ref (M + 5), .ref (M + 6), .ref (M + 7), .ref (M + 8), .ref (M + 9)])
/-- the reference's cells over a heap h -/
def mU (h : ax_H) (M : Nat) (un iu td aT nu ab be : Int32) (w tp mv rd ms mn la : Nat → Int32) (it tk : Nat → Int64) : ax_H := fun j => if j = M then some (eM M un iu td aT nu ab be) else if j = M + 1 then some (ax_I 915 w) else if j = M + 2 then some (ax_I 140 tp) else if j = M + 3 then some (ax_I 3 mv) else if j = M + 4 then some (ax_I 48 rd) else if j = M + 5 then some (ax_I 18 ms) else if j = M + 6 then some (ax_I 4 mn) else if j = M + 7 then some (ax_I 4 la) else if j = M + 8 then some (ax_L 96 it) else if j = M + 9 then some (ax_L 24 tk) else h j
section MUS
variable {h : ax_H} {M : Nat} {un iu td aT nu ab be : Int32} {w tp mv rd ms mn la : Nat → Int32} {it tk : Nat → Int64}
theorem mU_0 : (mU h M un iu td aT nu ab be w tp mv rd ms mn la it tk) M = some (eM M un iu td aT nu ab be) := by simp [mU]
theorem mU_1 : (mU h M un iu td aT nu ab be w tp mv rd ms mn la it tk) (M + 1) = some (ax_I 915 w) := by simp [mU]
theorem mU_2 : (mU h M un iu td aT nu ab be w tp mv rd ms mn la it tk) (M + 2) = some (ax_I 140 tp) := by simp [mU]
theorem mU_3 : (mU h M un iu td aT nu ab be w tp mv rd ms mn la it tk) (M + 3) = some (ax_I 3 mv) := by simp [mU]
theorem mU_4 : (mU h M un iu td aT nu ab be w tp mv rd ms mn la it tk) (M + 4) = some (ax_I 48 rd) := by simp [mU]
theorem mU_5 : (mU h M un iu td aT nu ab be w tp mv rd ms mn la it tk) (M + 5) = some (ax_I 18 ms) := by simp [mU]
theorem mU_6 : (mU h M un iu td aT nu ab be w tp mv rd ms mn la it tk) (M + 6) = some (ax_I 4 mn) := by simp [mU]
theorem mU_7 : (mU h M un iu td aT nu ab be w tp mv rd ms mn la it tk) (M + 7) = some (ax_I 4 la) := by simp [mU]
theorem mU_8 : (mU h M un iu td aT nu ab be w tp mv rd ms mn la it tk) (M + 8) = some (ax_L 96 it) := by simp [mU]
theorem mU_9 : (mU h M un iu td aT nu ab be w tp mv rd ms mn la it tk) (M + 9) = some (ax_L 24 tk) := by simp [mU]
theorem mU_p0 {un2 iu2 td2 aT2 nu2 ab2 be2 : Int32} : hp (mU h M un iu td aT nu ab be w tp mv rd ms mn la it tk) M (eM M un2 iu2 td2 aT2 nu2 ab2 be2) = (mU h M (un2) (iu2) (td2) (aT2) (nu2) (ab2) (be2) w tp mv rd ms mn la it tk) := by
  funext j
  by_cases h1 : j = M
  · subst h1; simp [hp, mU]
  · simp [hp, mU, h1]
theorem mU_p1 {z : Nat → Int32} : hp (mU h M un iu td aT nu ab be w tp mv rd ms mn la it tk) (M + 1) (ax_I 915 z) = (mU h M un iu td aT nu ab be (z) tp mv rd ms mn la it tk) := by
  funext j
  by_cases h1 : j = M + 1
  · subst h1; simp [hp, mU]
  · simp [hp, mU, h1]
theorem mU_p2 {z : Nat → Int32} : hp (mU h M un iu td aT nu ab be w tp mv rd ms mn la it tk) (M + 2) (ax_I 140  z) = (mU h M un iu td aT nu ab be w (z) mv rd ms mn la it tk) := by
  funext j
  by_cases h1 : j = M + 2
  · subst h1; simp [hp, mU]
  · simp [hp, mU, h1]
theorem mU_p3 {z : Nat → Int32} : hp (mU h M un iu td aT nu ab be w tp mv rd ms mn la it tk) (M + 3) (ax_I 3  z) = (mU h M un iu td aT nu ab be w tp (z) rd ms mn la it tk) := by
  funext j
  by_cases h1 : j = M + 3
  · subst h1; simp [hp, mU]
  · simp [hp, mU, h1]
theorem mU_p4 {z : Nat → Int32} : hp (mU h M un iu td aT nu ab be w tp mv rd ms mn la it tk) (M + 4) (ax_I 48  z) = (mU h M un iu td aT nu ab be w tp mv (z) ms mn la it tk) := by
  funext j
  by_cases h1 : j = M + 4
  · subst h1; simp [hp, mU]
  · simp [hp, mU, h1]
theorem mU_p5 {z : Nat → Int32} : hp (mU h M un iu td aT nu ab be w tp mv rd ms mn la it tk) (M + 5) (ax_I 18  z) = (mU h M un iu td aT nu ab be w tp mv rd (z) mn la it tk) := by
  funext j
  by_cases h1 : j = M + 5
  · subst h1; simp [hp, mU]
  · simp [hp, mU, h1]
theorem mU_p6 {z : Nat → Int32} : hp (mU h M un iu td aT nu ab be w tp mv rd ms mn la it tk) (M + 6) (ax_I 4  z) = (mU h M un iu td aT nu ab be w tp mv rd ms (z) la it tk) := by
  funext j
  by_cases h1 : j = M + 6
  · subst h1; simp [hp, mU]
  · simp [hp, mU, h1]
theorem mU_p7 {z : Nat → Int32} : hp (mU h M un iu td aT nu ab be w tp mv rd ms mn la it tk) (M + 7) (ax_I 4  z) = (mU h M un iu td aT nu ab be w tp mv rd ms mn (z) it tk) := by
  funext j
  by_cases h1 : j = M + 7
  · subst h1; simp [hp, mU]
  · simp [hp, mU, h1]
theorem mU_p8 {z : Nat → Int64} : hp (mU h M un iu td aT nu ab be w tp mv rd ms mn la it tk) (M + 8) (ax_L 96  z) = (mU h M un iu td aT nu ab be w tp mv rd ms mn la (z) tk) := by
  funext j
  by_cases h1 : j = M + 8
  · subst h1; simp [hp, mU]
  · simp [hp, mU, h1]
theorem mU_p9 {z : Nat → Int64} : hp (mU h M un iu td aT nu ab be w tp mv rd ms mn la it tk) (M + 9) (ax_L 24  z) = (mU h M un iu td aT nu ab be w tp mv rd ms mn la it (z)) := by
  funext j
  by_cases h1 : j = M + 9
  · subst h1; simp [hp, mU]
  · simp [hp, mU, h1]
theorem mU_out {j : Nat} (hj : j < M ∨ M + 10 ≤ j) : (mU h M un iu td aT nu ab be w tp mv rd ms mn la it tk) j = h j := by
  have : j ≠ M ∧ j ≠ M + 1 ∧ j ≠ M + 2 ∧ j ≠ M + 3 ∧ j ≠ M + 4 ∧ j ≠ M + 5 ∧ j ≠ M + 6 ∧ j ≠ M + 7 ∧ j ≠ M + 8 ∧ j ≠ M + 9 := by omega
  simp [mU, this]
end MUS
/-- the row at f is copied to t, the first k of its numbers -/
def cpR (w : Nat → Int32) (f t : Nat) : Nat → Nat → Int32
  | 0 => w
  | k + 1 => upd (cpR w f t k) (t + k) (cpR w f t k (f + k))
set_option maxHeartbeats 4000000 in
set_option maxRecDepth 100000 in
theorem cn_X8_copyRow {h : ax_H} {n : Nat} {M : Nat} {un iu td aT nu ab be : Int32} {w tp mv rd ms mn la : Nat → Int32} {it tk : Nat → Int64} (f t : Nat) (hf : f + 61 ≤ 915) (ht : t + 61 ≤ 915) : ax_C yX8_copyRow cX8_copyRow 4 none 0 0 0 [.ref M, .int (nI f), .int (nI t)] (mU h M un iu td aT nu ab be w tp mv rd ms mn la it tk) n (kv (mU h M un iu td aT nu ab be (cpR w f t 61) tp mv rd ms mn la it tk) n) := by
  refine ax_C.go RX8 "copyRow" [some (.ref M), some (.int (nI f)), some (.int (nI t)), none] rfl rfl pn_X8 (lb rfl) rfl (fun l G cy bs => ?_)
  have lp : ∀ (j k : Nat), k + j = 61 → ax_T l G cy bs (ax_rm 0 0 0) RX8 "copyRow" cX8_copyRow 4 none (kv (mU h M un iu td aT nu ab be (cpR w f t 61) tp mv rd ms mn la it tk) n) 0 0 2 [some (.ref M), some (.int (nI f)), some (.int (nI t)), some (.int (nI (k)))] [] (mU h M un iu td aT nu ab be (cpR w f t (k)) tp mv rd ms mn la it tk) n 0 0 := by
    intro j
    induction j with
    | zero =>
      intro k hk
      obtain rfl : k = 61 := by omega
      refine il3 dX8_copyRow_2 ?_
      refine xt_bipush (61) dX8_copyRow_3 rfl ?_
      refine xt_icmp_ge 30 dX8_copyRow_5 rfl (fun _ => ?_) (fun q => absurd (by decide) q)
      exact xt_ret dX8_copyRow_30 rfl (lb rfl) (lb rfl) ⟨rfl, rfl, rfl⟩
    | succ j ih =>
      intro k hk
      refine il3 dX8_copyRow_2 ?_
      refine xt_bipush (61) dX8_copyRow_3 rfl ?_
      refine xt_icmp_ge 30 dX8_copyRow_5 rfl (fun q => absurd q (nI_ge (a := k) (b := 61) (by omega) (by decide))) (fun _ => ?_)
      refine al0 dX8_copyRow_8 ?_
      refine g_X8_7 dX8_copyRow_9 mU_0 ?_
      refine il2 dX8_copyRow_12 ?_
      refine il3 dX8_copyRow_13 ?_
      refine xt_iadd dX8_copyRow_14 ?_
      refine al0 dX8_copyRow_15 ?_
      refine g_X8_7 dX8_copyRow_16 mU_0 ?_
      refine il1 dX8_copyRow_19 ?_
      refine il3 dX8_copyRow_20 ?_
      refine xt_iadd dX8_copyRow_21 ?_
      refine xt_iald (f + k) mU_1 (by omega) (ne_add rfl rfl) (by decide) dX8_copyRow_22 ?_
      refine xt_iast (t + k) mU_1 (by omega) (ne_add rfl rfl) (by decide) dX8_copyRow_23 ?_
      refine xt_heq mU_p1 ?_
      refine inc3 (nI (k + 1)) dX8_copyRow_24 (nI_1 _) (by decide) rfl ?_
      refine xt_goto 2 dX8_copyRow_27 rfl ?_
      exact ih (k + 1) (by omega)
  refine xt_iconst (0) dX8_copyRow_0 rfl ?_
  refine is3 dX8_copyRow_1 (by decide) rfl ?_
  exact lp 61 0 rfl
