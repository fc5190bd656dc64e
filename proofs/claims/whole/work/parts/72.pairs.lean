/-! class and reference side by side -/
/-- between two calls: the class's cells and the reference's tell one thing -/
def INV (h : ax_H) : Prop := ∃ (m u t : Nat) (im iu : Int32) (W : Nat → Nat → Int32) (tp mn la : Nat → Int32) (it : Nat → Int64), CB h (W 0) m (fun i => W (2 + i)) u im iu (fun i => W (8 + i)) t tp mn la it ∧ ∃ (aT nu ab be : Int32) (mv rd ms : Nat → Int32) (tk : Nat → Int64), MF h 259 (nI u) iu (nI t) aT nu ab be (jn W) tp mv rd ms mn la it tk
section PRS
variable {h h2 h3 : ax_H} {n : Nat} {r : Nat → Int32} {m : Nat} {R : Nat → Nat → Int32} {u : Nat} {im iu : Int32} {Wi W : Nat → Nat → Int32} {t : Nat} {tp mn la : Nat → Int32} {it : Nat → Int64} {aT nu ab be : Int32} {mv rd ms : Nat → Int32} {tk : Nat → Int64}
theorem CB.cg {r2 : Nat → Int32} {R2 Wi2 : Nat → Nat → Int32} (hI : CB h r m R u im iu Wi t tp mn la it) (hr : r2 = r) (hR : ∀ i, i < u → R2 i = R i) (hW : ∀ i, i < 7 → Wi2 i = Wi i) : CB h r2 m R2 u im iu Wi2 t tp mn la it := by
  obtain ⟨a1, a2, a3, a4, a5, a6, a7, a8⟩ := hI
  subst hr
  refine ⟨a1, a2, ?_, a4, a5, a6, ?_, a8⟩
  · obtain ⟨ka, e1, e2, hu, hv, hx, hs⟩ := a3
    exact ⟨ka, e1, e2, hu, hv, hx, fun i hi => by rw [hR i hi]; exact hs i hi⟩
  · obtain ⟨R', ui, p1, p2, p3⟩ := a7
    have hu : ui ≤ 6 := by obtain ⟨_, _, _, q, -⟩ := p1; exact q
    refine ⟨R', ui, p1, p2, ?_⟩
    rcases p3 with q | ⟨q1, q2, ⟨m', q3⟩, q4⟩
    · exact Or.inl q
    · exact Or.inr ⟨q1, q2, ⟨m', by rw [hW 0 (by omega)]; exact q3⟩, fun i hi => by rw [hW _ (by omega)]; exact q4 i hi⟩
theorem cg_1 {r1 : Nat → Int32} (hI : CB h (W 0) m (fun i => W (2 + i)) u im iu (fun i => W (8 + i)) t tp mn la it) : CB h (va_up W 1 r1 0) m (fun i => va_up W 1 r1 (2 + i)) u im iu (fun i => va_up W 1 r1 (8 + i)) t tp mn la it :=
  hI.cg (va_up_ne _ _ (by decide)) (fun i _ => va_up_ne _ _ (by omega)) (fun i _ => va_up_ne _ _ (by omega))
theorem cg_0 {r2 : Nat → Int32} (hI : CB h r2 m (fun i => W (2 + i)) u im iu (fun i => W (8 + i)) t tp mn la it) : CB h (va_up W 0 r2 0) m (fun i => va_up W 0 r2 (2 + i)) u im iu (fun i => va_up W 0 r2 (8 + i)) t tp mn la it :=
  hI.cg (va_up_self _ _ _) (fun i _ => va_up_ne _ _ (by omega)) (fun i _ => va_up_ne _ _ (by omega))
theorem mdW_hi {q : Nat} (hq : 8 ≤ q) (hu : u ≤ 6) : mdW W u q = W q := by
  unfold mdW
  split
  · rw [va_up_ne _ _ (by omega)]; unfold shW; rw [if_neg (by omega)]
  · rw [va_up_ne _ _ (by omega)]
theorem cg_md {r2 : Nat → Int32} (hu : u ≤ 6) (hI : CB h r2 m (kpR (fun i => W (2 + i)) u (W 0)) (mdU u) im iu (fun i => W (8 + i)) t tp mn la it) : CB h (va_up (mdW W u) 0 r2 0) m (fun i => va_up (mdW W u) 0 r2 (2 + i)) (mdU u) im iu (fun i => va_up (mdW W u) 0 r2 (8 + i)) t tp mn la it :=
  hI.cg (va_up_self _ _ _) (fun i hi => by rw [va_up_ne _ _ (by omega)]; exact kp_md hu i hi) (fun i _ => by rw [va_up_ne _ _ (by omega)]; exact mdW_hi (by omega) hu)
theorem inv_mk (hC : CB h2 (W 0) m (fun i => W (2 + i)) u im iu (fun i => W (8 + i)) t tp mn la it) : INV (mU h2 259 (nI u) iu (nI t) aT nu ab be (jn W) tp mv rd ms mn la it tk) :=
  ⟨m, u, t, im, iu, W, tp, mn, la, it, hC.tr (fun j hj => mU_out (Or.inl hj)), aT, nu, ab, be, mv, rd, ms, tk, MF.of rfl⟩
theorem inv_st (hC : CB h2 (W 0) m (fun i => W (2 + i)) u im iu (fun i => W (8 + i)) t tp mn la it) (hS : MSt h2 259 (nI u) iu (nI t) W tp mn la it h3) : INV h3 := by
  obtain ⟨aT, nu, ab, be, r1, mv, rd, ms, tk, rfl⟩ := hS
  exact inv_mk (cg_1 hC)
theorem pr_e {y : MethodName} {cc : ByteArray} {nL : Nat} {ret : Option FieldType} {d mc1 ms1 : Nat} {as : List Value} {n2 : Nat} {ans : Int32} {PP : ax_H → Prop} {un td : Int32} {w : Nat → Int32} (hM : MF h 259 un iu td aT nu ab be w tp mv rd ms mn la it tk) (hF : FM n h h2) (hn : 269 ≤ n) (hC : ax_C y cc nL ret d mc1 ms1 as (mU h2 259 un iu td aT nu ab be w tp mv rd ms mn la it tk) n2 (kE ans PP n2)) (hI : ∀ h3, PP h3 → INV h3) : (∃ fs, h2 259 = some (.inr (8, fs))) ∧ ax_C y cc nL ret d mc1 ms1 as h2 n2 (kE ans INV n2) := by
  have hM2 := hM.fr (h2 := h2) (fun j a b => hF j a (by omega))
  have e := hM2.id
  refine ⟨⟨_, hM2.1⟩, ?_⟩
  exact (ax_C.heq e hC).wk (fun v h' n' q => ⟨q.1, hI _ q.2.1, q.2.2⟩)
theorem pr_i {y : MethodName} {cc : ByteArray} {nL : Nat} {ret : Option FieldType} {d mc1 ms1 : Nat} {as : List Value} {n2 : Nat} {ans : Int32} {un td : Int32} {w : Nat → Int32} (hM : MF h 259 un iu td aT nu ab be w tp mv rd ms mn la it tk) (hF : FM n h h2) (hn : 269 ≤ n) (hC : ax_C y cc nL ret d mc1 ms1 as (mU h2 259 un iu td aT nu ab be w tp mv rd ms mn la it tk) n2 (ki ans h3 n2)) (hI : INV h3) : (∃ fs, h2 259 = some (.inr (8, fs))) ∧ ax_C y cc nL ret d mc1 ms1 as h2 n2 (kE ans INV n2) := by
  have hM2 := hM.fr (h2 := h2) (fun j a b => hF j a (by omega))
  have e := hM2.id
  refine ⟨⟨_, hM2.1⟩, ?_⟩
  exact (ax_C.heq e hC).wk (fun v h' n' q => ⟨q.1, by rw [q.2.1]; exact hI, q.2.2⟩)
theorem CB.shk (hI : CB h r m R u im iu Wi t tp mn la it) {s : Nat} (hs : s < 4) {lane i y : Int32} (hg : agV mn la s lane i y = 0) : ∃ k : Nat, k ≤ 24 ∧ mn s = nI k := by
  obtain ⟨th, l, z, f, -, -, e2⟩ := hI.2.2.2.2.2.2.2.2 s hs
  obtain ⟨-, k, hk, -, e, -⟩ := sh_there (h := h) e2 hg
  exact ⟨k, hk, e⟩
end PRS
theorem rg {x M : Int32} {n : Nat} (hM : M.toInt = n) (h : 0 ≤ x ∧ x ≤ M) : ∃ j : Nat, j ≤ n ∧ x = nI j := nI_of2 hM (nlt.mpr h.1) h.2
theorem rg1 {x M : Int32} {n : Nat} (hM : M.toInt = n) (h : 1 ≤ x ∧ x ≤ M) : ∃ j : Nat, 1 ≤ j ∧ j ≤ n ∧ x = nI j := by
  have h0 : ¬ x < 0 := by
    have h1 := h.1
    rw [fb_le] at h1
    rw [fb_lt, ti_0]
    have : (1 : Int32).toInt = 1 := by decide
    omega
  obtain ⟨j, hj, rfl⟩ := nI_of2 hM h0 h.2
  refine ⟨j, ?_, hj, rfl⟩
  rcases Nat.eq_zero_or_pos j with z | z
  · subst z; exact absurd h.1 (by decide)
  · exact z
theorem ag_nat2 {mn la : Nat → Int32} {s : Nat} {lane i y : Int32} {k : Nat} (hk : k ≤ 24) (hm : mn s = nI k) (h : agV mn la s lane i y = 0) : ∃ a b : Nat, i = nI a ∧ y = nI b ∧ a + b ≤ k := by
  unfold agV at h
  rw [hm, if_pos (nI_pos' (by omega))] at h
  by_cases hl : la s = lane
  · rw [if_pos hl] at h
    by_cases hi : i < 0
    · rw [if_pos hi] at h; exact absurd h (by decide)
    · rw [if_neg hi] at h
      by_cases hy : y < 0
      · rw [if_pos hy] at h; exact absurd h (by decide)
      · rw [if_neg hy] at h
        obtain ⟨a, a1, rfl⟩ := nI_of hi
        obtain ⟨b, b1, rfl⟩ := nI_of hy
        have e3 : ((nI a).toInt64 + (nI b).toInt64).toInt = (a : Int) + b := by
          rw [Int64.toInt_add, Int32.toInt_toInt64, Int32.toInt_toInt64, nI_toInt a1, nI_toInt b1]; apply Int.bmod_eq_of_le <;> omega
        by_cases hq : lg_cmp ((nI a).toInt64 + (nI b).toInt64) (nI k).toInt64 ≤ 0
        · refine ⟨a, b, rfl, rfl, ?_⟩
          have : ¬ (nI k).toInt64 < (nI a).toInt64 + (nI b).toInt64 := fun z => by
            have := (lc_gt ((nI a).toInt64 + (nI b).toInt64) (nI k).toInt64).mpr z
            rw [fb_lt, ti_0] at this; rw [fb_le, ti_0] at hq; omega
          rw [Int64.lt_iff_toInt_lt, e3, Int32.toInt_toInt64, nI_toInt (by omega)] at this
          omega
        · rw [if_neg hq] at h; exact absurd h (by decide)
  · rw [if_neg hl] at h; exact absurd h (by decide)
theorem drN_hi : ∀ (N : Nat) (s : dS), s.2 ≤ 6 → ∀ q, 8 ≤ q → (drN N s).1 q = s.1 q
  | 0, _, _, _, _ => rfl
  | N + 1, s, hu, q, hq => by
    have e : drN (N + 1) s = drN N (drS s) := rfl
    rw [e, drN_hi N (drS s) (by show mdU s.2 ≤ 6; unfold mdU; split <;> omega) q hq]
    show va_up (mdW s.1 s.2) 0 _ q = _
    rw [va_up_ne _ _ (by omega)]
    exact mdW_hi hq hu
