def kE (r : Int32) (P : ax_H → Prop) (n : Nat) : Option Value → ax_H → Nat → Prop := fun v h' n' => v = some (.int r) ∧ P h' ∧ n' = n
/-- the reference's heap, but for what is scratch -/
def MSt (h : ax_H) (M : Nat) (un iu td : Int32) (W : Nat → Nat → Int32) (tp mn la : Nat → Int32) (it : Nat → Int64) : ax_H → Prop := fun h' => ∃ (aT nu ab be : Int32) (r1 mv rd ms : Nat → Int32) (tk : Nat → Int64), h' = (mU h M un iu td aT nu ab be (jn (va_up W 1 r1)) tp mv rd ms mn la it tk)
theorem MSt_of {h : ax_H} {M : Nat} {un iu td aT nu ab be : Int32} {tp mv rd ms mn la : Nat → Int32} {W : Nat → Nat → Int32} {it tk : Nat → Int64} : MSt h M un iu td W tp mn la it (mU h M un iu td aT nu ab be (jn W) tp mv rd ms mn la it tk) := ⟨aT, nu, ab, be, W 1, mv, rd, ms, tk, by rw [up_id]⟩
theorem MSt_r {h : ax_H} {M : Nat} {un iu td aT nu ab be : Int32} {tp mv rd ms mn la : Nat → Int32} {W : Nat → Nat → Int32} {it tk : Nat → Int64} {r1 : Nat → Int32} : MSt h M un iu td W tp mn la it (mU h M un iu td aT nu ab be (jn (va_up W 1 r1)) tp mv rd ms mn la it tk) := ⟨aT, nu, ab, be, r1, mv, rd, ms, tk, rfl⟩
theorem jnr0 {W : Nat → Nat → Int32} {c : Nat} {r : Nat → Int32} (hc : c < 61) : jn (va_up W 1 r) c = W 0 c := by
  have := jnw (W := va_up W 1 r) (q := 0) (c := c) (K := c) (by omega) hc
  rw [this]; simp [va_up]
def nxN : Nat → (Nat → Int32) → Nat → Int32
  | 0, r => r
  | k + 1, r => nxN k (nx r)
theorem nxN_fix {r : Nat → Int32} (h : nx r = r) : ∀ k, nxN k r = r
  | 0 => rfl
  | k + 1 => by show nxN k (nx r) = r; rw [h]; exact nxN_fix h k
theorem rf01 (r : Nat → Int32) : rFlag r = 0 ∨ rFlag r = 1 := by
  unfold rFlag; split
  · exact Or.inr rfl
  · split
    · exact Or.inl rfl
    · exact Or.inr rfl
theorem cn_X8_stepsI {h : ax_H} {n : Nat} {M : Nat} {un iu td aT nu ab be : Int32} {tp mv rd ms mn la : Nat → Int32} {W : Nat → Nat → Int32} {r : Nat → Int32} {q : Nat} {it tk : Nat → Int64} (hq : q < 15) {m : Nat} (hRI : RI r m) : ax_C yX8_steps cX8_steps 2 (some .boolean) 5 0 0 [.ref M, .int (nI (61 * q))] (mU h M un iu td aT nu ab be (jn (va_up W q r)) tp mv rd ms mn la it tk) n (ki (rFlag r) (mU h M un iu td aT nu ab be (jn (va_up W q (nx r))) tp ((rStp m r mv).2) rd ms mn la it tk) n) := by
  have z := cn_X8_steps (h := h) (n := n) (M := M) (un := un) (iu := iu) (td := td) (aT := aT) (nu := nu) (ab := ab) (be := be) (tp := tp) (mv := mv) (rd := rd) (ms := ms) (mn := mn) (la := la) (it := it) (tk := tk) (W := W) (r := r) (q := q) hq m hRI.1.1 hRI.1.2.1 (RI_ok hRI)
  rw [(rStp_nx hRI.1.1 (by have := hRI.1.2.1; omega)).1] at z
  exact z
theorem mv_mo {r mv : Nat → Int32} {m : Nat} (hRI : RI r m) {i : Nat} (hi : i < 3) : (rStp m r mv).2 i = mo r i := (rStp_nx hRI.1.1 (by have := hRI.1.2.1; omega)).2 i hi
set_option maxHeartbeats 400000 in
set_option maxRecDepth 100000 in
theorem cn_X8_step_b {h : ax_H} {n : Nat} {M : Nat} {un iu td aT nu ab be : Int32} {tp mv rd ms mn la : Nat → Int32} {W : Nat → Nat → Int32} {it tk : Nat → Int64} (x : Int32) (hx : ¬ (1 ≤ x ∧ x ≤ 200)) : ax_C yX8_step cX8_step 3 (some .int) 6 0 0 [.ref M, .int x] (mU h M un iu td aT nu ab be (jn W) tp mv rd ms mn la it tk) n (ki ((-1000001)) (mU h M un iu td aT nu ab be (jn W) tp mv rd ms mn la it tk) n) := by
  refine ax_C.go RX8 "step" [some (.ref M), some (.int x), none] rfl rfl pn_X8 (lb rfl) rfl (fun l G cy bs => ?_)
  refine il1 dX8_step_0 ?_
  refine xt_i2l dX8_step_1 ?_
  refine xt_lconst (1) dX8_step_2 rfl ?_
  refine k_X8_173 dX8_step_3 ?_
  refine s_X8_51 dX8_step_6 (cn_X8_inI _ (1) (200) rfl rfl) ⟨lb rfl, lb rfl, lb rfl, lb rfl⟩ ?_
  refine xt_if_ne 15 dX8_step_9 rfl (fun q => absurd (fl0 hx) q) (fun _ => ?_)
  refine k_X8_112 dX8_step_12 ?_
  exact xt_iret dX8_step_14 rfl (lb rfl) (lb rfl) ⟨rfl, rfl, rfl⟩
set_option maxHeartbeats 400000 in
set_option maxRecDepth 100000 in
theorem cn_X8_step_n {h : ax_H} {n : Nat} {M : Nat} {un iu td aT nu ab be : Int32} {tp mv rd ms mn la : Nat → Int32} {W : Nat → Nat → Int32} {it tk : Nat → Int64} (x : Int32) (hx : 1 ≤ x ∧ x ≤ 200) (hh : W 0 3 = 1) : ax_C yX8_step cX8_step 3 (some .int) 6 0 0 [.ref M, .int x] (mU h M un iu td aT nu ab be (jn W) tp mv rd ms mn la it tk) n (ki ((-1000002)) (mU h M un iu td aT nu ab be (jn W) tp mv rd ms mn la it tk) n) := by
  refine ax_C.go RX8 "step" [some (.ref M), some (.int x), none] rfl rfl pn_X8 (lb rfl) rfl (fun l G cy bs => ?_)
  refine il1 dX8_step_0 ?_
  refine xt_i2l dX8_step_1 ?_
  refine xt_lconst (1) dX8_step_2 rfl ?_
  refine k_X8_173 dX8_step_3 ?_
  refine s_X8_51 dX8_step_6 (cn_X8_inI _ (1) (200) rfl rfl) ⟨lb rfl, lb rfl, lb rfl, lb rfl⟩ ?_
  refine xt_if_ne 15 dX8_step_9 rfl (fun _ => ?_) (fun q => absurd q (fl1 hx))
  refine al0 dX8_step_15 ?_
  refine g_X8_7 dX8_step_16 mU_0 ?_
  refine xt_iconst (3) dX8_step_19 rfl ?_
  refine xt_iald (3) mU_1 (by omega) rfl (by decide) dX8_step_20 ?_
  refine xt_top (congrArg Value.int (jnw (q := 0) (c := 3) (by omega) (by omega))) ?_
  refine xt_iconst (1) dX8_step_21 rfl ?_
  refine xt_icmp_ne 28 dX8_step_22 rfl (fun q => absurd hh q) (fun _ => ?_)
  refine k_X8_172 dX8_step_25 ?_
  exact xt_iret dX8_step_27 rfl (lb rfl) (lb rfl) ⟨rfl, rfl, rfl⟩
set_option maxHeartbeats 400000 in
set_option maxRecDepth 100000 in
theorem cn_X8_step {h : ax_H} {n : Nat} {M : Nat} {iu td aT nu ab be : Int32} {tp mv rd ms mn la : Nat → Int32} {W : Nat → Nat → Int32} {it tk : Nat → Int64} (u : Nat) (hu : u ≤ 6) (m : Nat) (hRI0 : RI (W 0) m) (N : Nat) (hN : 1 ≤ N ∧ N ≤ 200) (hh : ¬ W 0 3 = 1) : ax_C yX8_step cX8_step 3 (some .int) 6 0 0 [.ref M, .int (nI N)] (mU h M (nI u) iu td aT nu ab be (jn W) tp mv rd ms mn la it tk) n (kE (nI (min N (LN (W 0) m))) (MSt h M (nI (mdU u)) (iu) (td) (va_up (mdW W u) 0 (nxN N (W 0))) (tp) (mn) (la) (it)) n) := by
  refine ax_C.go RX8 "step" [some (.ref M), some (.int (nI N)), none] rfl rfl pn_X8 (lb rfl) rfl (fun l G cy bs => ?_)
  have lp : ∀ (j k : Nat), k + j = N → ∀ (r1 mv1 : Nat → Int32) (m1 : Nat), RI r1 m1 → nxN j r1 = nxN N (W 0) → k + min j (LN r1 m1) = min N (LN (W 0) m) → ax_T l G cy bs (ax_rm 6 0 0) RX8 "step" cX8_step 3 (some .int) (kE (nI (min N (LN (W 0) m))) (MSt h M (nI (mdU u)) (iu) (td) (va_up (mdW W u) 0 (nxN N (W 0))) (tp) (mn) (la) (it)) n) 0 0 34 [some (.ref M), some (.int (nI N)), some (.int (nI k))] [] (mU h M (nI (mdU u)) iu td aT nu ab be (jn (va_up (mdW W u) 0 r1)) tp (mv1) rd ms mn la it tk) n 0 0 := by
    intro j
    induction j with
    | zero =>
      intro k hk r1 mv1 m1 hRI hr hc
      obtain rfl : k = N := by omega
      refine il2 dX8_step_34 ?_
      refine il1 dX8_step_35 ?_
      refine xt_icmp_ge 53 dX8_step_36 rfl (fun _ => ?_) (fun q => absurd (nI_le (Nat.le_refl _) (by omega)) q)
      refine il2 dX8_step_53 ?_
      exact xt_iret dX8_step_54 rfl (lb rfl) (lb rfl) ⟨by rw [← hc]; simp, by rw [← hr]; exact MSt_of, rfl⟩
    | succ j ih =>
      intro k hk r1 mv1 m1 hRI hr hc
      refine il2 dX8_step_34 ?_
      refine il1 dX8_step_35 ?_
      refine xt_icmp_ge 53 dX8_step_36 rfl (fun q => absurd q (nI_ge (by omega) (by omega))) (fun _ => ?_)
      refine al0 dX8_step_39 ?_
      refine xt_iconst (0) dX8_step_40 rfl ?_
      refine s_X8_175 dX8_step_41 (cn_X8_stepsI (q := 0) (by omega) hRI) mU_0 ⟨lb rfl, lb rfl, lb rfl, lb rfl⟩ ?_
      refine xt_if_eq 53 dX8_step_44 rfl (fun c44 => ?_) (fun c44 => ?_)
      · have hL := (LN_flag hRI).mp c44
        have hx := (nx_0 c44).1
        rw [hx]
        rw [nxN_fix hx] at hr
        rw [hL] at hc
        refine il2 dX8_step_53 ?_
        exact xt_iret dX8_step_54 rfl (lb rfl) (lb rfl) ⟨by rw [← hc]; simp, by rw [← hr]; exact MSt_of, rfl⟩
      · obtain ⟨m2, -, hRI2, hL⟩ := RI_step hRI c44
        refine inc2 (nI (k + 1)) dX8_step_47 (nI_1 _) (by decide) rfl ?_
        refine xt_goto 34 dX8_step_50 rfl ?_
        exact ih (k + 1) (by omega) _ _ m2 hRI2 hr (by omega)
  refine il1 dX8_step_0 ?_
  refine xt_i2l dX8_step_1 ?_
  refine xt_lconst (1) dX8_step_2 rfl ?_
  refine k_X8_173 dX8_step_3 ?_
  refine s_X8_51 dX8_step_6 (cn_X8_inI _ (1) (200) rfl rfl) ⟨lb rfl, lb rfl, lb rfl, lb rfl⟩ ?_
  refine xt_if_ne 15 dX8_step_9 rfl (fun _ => ?_) (fun q => absurd q (fl1 ⟨nI_le (a := 1) (by omega) (by omega), nI_le (b := 200) (by omega) (by decide)⟩))
  refine al0 dX8_step_15 ?_
  refine g_X8_7 dX8_step_16 mU_0 ?_
  refine xt_iconst (3) dX8_step_19 rfl ?_
  refine xt_iald (3) mU_1 (by omega) rfl (by decide) dX8_step_20 ?_
  refine xt_top (congrArg Value.int (jnw (q := 0) (c := 3) (by omega) (by omega))) ?_
  refine xt_iconst (1) dX8_step_21 rfl ?_
  refine xt_icmp_ne 28 dX8_step_22 rfl (fun _ => ?_) (fun q => absurd q hh)
  refine al0 dX8_step_28 ?_
  refine s_X8_165 dX8_step_29 (cn_X8_minds u hu) mU_0 ⟨lb rfl, lb rfl, lb rfl, lb rfl⟩ ?_
  refine xt_heq (congrArg (fun z => (mU h M (nI (mdU u)) iu td aT nu ab be (jn z) tp mv rd ms mn la it tk)) (mdW_row W u)) ?_
  refine xt_iconst (0) dX8_step_32 rfl ?_
  refine is2 dX8_step_33 (by decide) rfl ?_
  exact lp N 0 (by omega) _ _ m hRI0 rfl (by omega)
set_option maxHeartbeats 400000 in
set_option maxRecDepth 100000 in
theorem cn_X8_where_b1 {h : ax_H} {n : Nat} {M : Nat} {un iu td aT nu ab be : Int32} {tp mv rd ms mn la : Nat → Int32} {W : Nat → Nat → Int32} {it tk : Nat → Int64} (x y : Int32) (hx : x < 0) : ax_C yX8_where cX8_where 4 (some .int) 6 0 0 [.ref M, .int x, .int y] (mU h M un iu td aT nu ab be (jn W) tp mv rd ms mn la it tk) n (ki ((-1000001)) (mU h M un iu td aT nu ab be (jn W) tp mv rd ms mn la it tk) n) := by
  refine ax_C.go RX8 "where" [some (.ref M), some (.int x), some (.int y), none] rfl rfl pn_X8 (lb rfl) rfl (fun l G cy bs => ?_)
  refine il1 dX8_where_0 ?_
  refine xt_if_lt 11 dX8_where_1 rfl (fun _ => ?_) (fun q => absurd hx q)
  refine k_X8_112 dX8_where_11 ?_
  exact xt_iret dX8_where_13 rfl (lb rfl) (lb rfl) ⟨rfl, rfl, rfl⟩
set_option maxHeartbeats 400000 in
set_option maxRecDepth 100000 in
theorem cn_X8_where_b2 {h : ax_H} {n : Nat} {M : Nat} {un iu td aT nu ab be : Int32} {tp mv rd ms mn la : Nat → Int32} {W : Nat → Nat → Int32} {it tk : Nat → Int64} (x y : Int32) (hx : ¬ x < 0) (hy : ¬ (0 ≤ y ∧ y ≤ 2)) : ax_C yX8_where cX8_where 4 (some .int) 6 0 0 [.ref M, .int x, .int y] (mU h M un iu td aT nu ab be (jn W) tp mv rd ms mn la it tk) n (ki ((-1000001)) (mU h M un iu td aT nu ab be (jn W) tp mv rd ms mn la it tk) n) := by
  refine ax_C.go RX8 "where" [some (.ref M), some (.int x), some (.int y), none] rfl rfl pn_X8 (lb rfl) rfl (fun l G cy bs => ?_)
  refine il1 dX8_where_0 ?_
  refine xt_if_lt 11 dX8_where_1 rfl (fun q => absurd q hx) (fun _ => ?_)
  refine il2 dX8_where_4 ?_
  refine s_X8_108 dX8_where_5 (cn_X8_isAxis _) ⟨lb rfl, lb rfl, lb rfl, lb rfl⟩ ?_
  refine xt_if_ne 14 dX8_where_8 rfl (fun q => absurd (fl0 hy) q) (fun _ => ?_)
  refine k_X8_112 dX8_where_11 ?_
  exact xt_iret dX8_where_13 rfl (lb rfl) (lb rfl) ⟨rfl, rfl, rfl⟩
set_option maxHeartbeats 400000 in
set_option maxRecDepth 100000 in
theorem cn_X8_where {h : ax_H} {n : Nat} {M : Nat} {un iu td aT nu ab be : Int32} {tp mv rd ms mn la : Nat → Int32} {W : Nat → Nat → Int32} {it tk : Nat → Int64} (m : Nat) (hRI0 : RI (W 0) m) (N a : Nat) (hN : N < 2 ^ 31) (ha : a < 3) : ax_C yX8_where cX8_where 4 (some .int) 6 0 0 [.ref M, .int (nI N), .int (nI a)] (mU h M un iu td aT nu ab be (jn W) tp mv rd ms mn la it tk) n (kE (nxN N (W 0) a) (MSt h M (un) (iu) (td) (W) (tp) (mn) (la) (it)) n) := by
  refine ax_C.go RX8 "where" [some (.ref M), some (.int (nI N)), some (.int (nI a)), none] rfl rfl pn_X8 (lb rfl) rfl (fun l G cy bs => ?_)
  have lp : ∀ (L k : Nat), k ≤ N → ∀ (r1 mv1 : Nat → Int32) (m1 : Nat), RI r1 m1 → LN r1 m1 = L → nxN (N - k) r1 = nxN N (W 0) → ax_T l G cy bs (ax_rm 6 0 0) RX8 "where" cX8_where 4 (some .int) (kE (nxN N (W 0) a) (MSt h M (un) (iu) (td) (W) (tp) (mn) (la) (it)) n) 0 0 23 [some (.ref M), some (.int (nI N)), some (.int (nI a)), some (.int (nI k))] [] (mU h M un iu td aT nu ab be (jn (va_up W 1 r1)) tp (mv1) rd ms mn la it tk) n 0 0 := by
    intro L
    induction L with
    | zero =>
      intro k hk r1 mv1 m1 hRI hL hr
      refine il3 dX8_where_23 ?_
      refine il1 dX8_where_24 ?_
      refine xt_icmp_ge 43 dX8_where_25 rfl (fun c25 => ?_) (fun c25 => ?_)
      · have hkN : k = N := by
          rcases Nat.lt_or_ge k N with q | q
          · exact absurd c25 (nI_ge q (by omega))
          · omega
        rw [hkN, Nat.sub_self] at hr
        have hr : r1 = nxN N (W 0) := hr
        refine al0 dX8_where_43 ?_
        refine g_X8_7 dX8_where_44 mU_0 ?_
        refine xt_bipush (61) dX8_where_47 rfl ?_
        refine il2 dX8_where_49 ?_
        refine xt_iadd dX8_where_50 ?_
        refine xt_iald (61 + a) mU_1 (by omega) (ne_add (a := 61) (b := a) rfl rfl) (by decide) dX8_where_51 ?_
        refine xt_top (congrArg Value.int (jnr (c := a) (by omega) (by omega))) ?_
        exact xt_iret dX8_where_52 rfl (lb rfl) (lb rfl) ⟨by rw [← hr], MSt_r, rfl⟩
      · have hkN : k < N := by
          rcases Nat.lt_or_ge k N with q | q
          · exact q
          · exact absurd (nI_le q (by omega)) c25
        refine al0 dX8_where_28 ?_
        refine xt_bipush (61) dX8_where_29 rfl ?_
        refine s_X8_175 dX8_where_31 (cn_X8_stepsI (q := 1) (by omega) hRI) mU_0 ⟨lb rfl, lb rfl, lb rfl, lb rfl⟩ ?_
        refine xt_if_eq 43 dX8_where_34 rfl (fun c34 => ?_) (fun c34 => ?_)
        · have hx := (nx_0 c34).1
          rw [hx]
          rw [nxN_fix hx] at hr
          refine al0 dX8_where_43 ?_
          refine g_X8_7 dX8_where_44 mU_0 ?_
          refine xt_bipush (61) dX8_where_47 rfl ?_
          refine il2 dX8_where_49 ?_
          refine xt_iadd dX8_where_50 ?_
          refine xt_iald (61 + a) mU_1 (by omega) (ne_add (a := 61) (b := a) rfl rfl) (by decide) dX8_where_51 ?_
          refine xt_top (congrArg Value.int (jnr (c := a) (by omega) (by omega))) ?_
          exact xt_iret dX8_where_52 rfl (lb rfl) (lb rfl) ⟨by rw [← hr], MSt_r, rfl⟩
        · exact absurd ((LN_flag hRI).mpr hL) c34
    | succ L ih =>
      intro k hk r1 mv1 m1 hRI hL hr
      refine il3 dX8_where_23 ?_
      refine il1 dX8_where_24 ?_
      refine xt_icmp_ge 43 dX8_where_25 rfl (fun c25 => ?_) (fun c25 => ?_)
      · have hkN : k = N := by
          rcases Nat.lt_or_ge k N with q | q
          · exact absurd c25 (nI_ge q (by omega))
          · omega
        rw [hkN, Nat.sub_self] at hr
        have hr : r1 = nxN N (W 0) := hr
        refine al0 dX8_where_43 ?_
        refine g_X8_7 dX8_where_44 mU_0 ?_
        refine xt_bipush (61) dX8_where_47 rfl ?_
        refine il2 dX8_where_49 ?_
        refine xt_iadd dX8_where_50 ?_
        refine xt_iald (61 + a) mU_1 (by omega) (ne_add (a := 61) (b := a) rfl rfl) (by decide) dX8_where_51 ?_
        refine xt_top (congrArg Value.int (jnr (c := a) (by omega) (by omega))) ?_
        exact xt_iret dX8_where_52 rfl (lb rfl) (lb rfl) ⟨by rw [← hr], MSt_r, rfl⟩
      · have hkN : k < N := by
          rcases Nat.lt_or_ge k N with q | q
          · exact q
          · exact absurd (nI_le q (by omega)) c25
        refine al0 dX8_where_28 ?_
        refine xt_bipush (61) dX8_where_29 rfl ?_
        refine s_X8_175 dX8_where_31 (cn_X8_stepsI (q := 1) (by omega) hRI) mU_0 ⟨lb rfl, lb rfl, lb rfl, lb rfl⟩ ?_
        refine xt_if_eq 43 dX8_where_34 rfl (fun c34 => ?_) (fun c34 => ?_)
        · have hx := (nx_0 c34).1
          rw [hx]
          rw [nxN_fix hx] at hr
          refine al0 dX8_where_43 ?_
          refine g_X8_7 dX8_where_44 mU_0 ?_
          refine xt_bipush (61) dX8_where_47 rfl ?_
          refine il2 dX8_where_49 ?_
          refine xt_iadd dX8_where_50 ?_
          refine xt_iald (61 + a) mU_1 (by omega) (ne_add (a := 61) (b := a) rfl rfl) (by decide) dX8_where_51 ?_
          refine xt_top (congrArg Value.int (jnr (c := a) (by omega) (by omega))) ?_
          exact xt_iret dX8_where_52 rfl (lb rfl) (lb rfl) ⟨by rw [← hr], MSt_r, rfl⟩
        · obtain ⟨m2, -, hRI2, hL2⟩ := RI_step hRI c34
          refine inc3 (nI (k + 1)) dX8_where_37 (nI_1 _) (by decide) rfl ?_
          refine xt_goto 23 dX8_where_40 rfl ?_
          exact ih (k + 1) (by omega) _ _ m2 hRI2 (by omega) (by rw [← hr, show N - k = (N - (k + 1)) + 1 by omega]; rfl)
  refine il1 dX8_where_0 ?_
  refine xt_if_lt 11 dX8_where_1 rfl (fun q => absurd q (nI_pos (by omega))) (fun _ => ?_)
  refine il2 dX8_where_4 ?_
  refine s_X8_108 dX8_where_5 (cn_X8_isAxis _) ⟨lb rfl, lb rfl, lb rfl, lb rfl⟩ ?_
  refine xt_if_ne 14 dX8_where_8 rfl (fun _ => ?_) (fun q => absurd q (fl1 ⟨nI_pos' (by omega), nI_le (b := 2) (by omega) (by decide)⟩))
  refine al0 dX8_where_14 ?_
  refine xt_iconst (0) dX8_where_15 rfl ?_
  refine xt_bipush (61) dX8_where_16 rfl ?_
  refine s_X8_45 dX8_where_18 (cn_X8_copyRow 0 1 (by omega) (by omega) (by omega)) mU_0 ⟨lb rfl, lb rfl, lb rfl, lb rfl⟩ ?_
  refine xt_iconst (0) dX8_where_21 rfl ?_
  refine is3 dX8_where_22 (by decide) rfl ?_
  exact lp _ 0 (by omega) _ _ m hRI0 rfl rfl
