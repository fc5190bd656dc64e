abbrev i3 : Type := Int32 × Int32 × Int32
def pulS (x : Int32) (s : i3) : i3 := (s.1 + (if x = 0 then 0 else 1), (if x = 0 then s.2.1 + 1 else 0), (if (if x = 0 then s.2.1 + 1 else 0) ≤ s.2.2 then s.2.2 else (if x = 0 then s.2.1 + 1 else 0)))
def pulF (a : Nat) : Nat → (Nat → Int32) → i3 → i3
  | 0, _, s => s
  | L + 1, r, s => pulF a L (nx r) (pulS (mo r a) s)
def nexF (a : Nat) (k : Int32) : Nat → Nat → (Nat → Int32) → Int32
  | 0, _, _ => -1000004
  | L + 1, i, r => if nI i < k then nexF a k L (i + 1) (nx r) else if mo r a = 0 then nexF a k L (i + 1) (nx r) else nI i
def metF (x y z : Int32) : Nat → Nat → (Nat → Int32) → Int32
  | 0, i, r => if r 0 = x then (if r 1 = y then (if r 2 = z then nI i else -1000004) else -1000004) else -1000004
  | L + 1, i, r => if r 0 = x then (if r 1 = y then (if r 2 = z then nI i else metF x y z L (i + 1) (nx r)) else metF x y z L (i + 1) (nx r)) else metF x y z L (i + 1) (nx r)
def reaS (what its e : Int32) : Int32 := if what = 0 then (if e ≤ its then e else its) else (if its ≤ e then e else its)
def reaF (a : Nat) (what : Int32) : Nat → (Nat → Int32) → Int32 → Int32
  | 0, _, e => e
  | L + 1, r, e => reaF a what L (nx r) (reaS what (nx r a) e)
set_option maxHeartbeats 400000 in
set_option maxRecDepth 100000 in
theorem cn_X8_pulses_b1 {h : ax_H} {n : Nat} {M : Nat} {un iu td aT nu ab be : Int32} {tp mv rd ms mn la : Nat → Int32} {W : Nat → Nat → Int32} {it tk : Nat → Int64} (x y : Int32) (hx : ¬ (0 ≤ x ∧ x ≤ 2)) : ax_C yX8_pulses cX8_pulses 6 (some .int) 6 0 0 [.ref M, .int x, .int y] (mU h M un iu td aT nu ab be (jn W) tp mv rd ms mn la it tk) n (ki ((-1000001)) (mU h M un iu td aT nu ab be (jn W) tp mv rd ms mn la it tk) n) := by
  refine ax_C.go RX8 "pulses" [some (.ref M), some (.int x), some (.int y), none, none, none] rfl rfl pn_X8 (lb rfl) rfl (fun l G cy bs => ?_)
  refine il1 dX8_pulses_0 ?_
  refine s_X8_108 dX8_pulses_1 (cn_X8_isAxis _) ⟨lb rfl, lb rfl, lb rfl, lb rfl⟩ ?_
  refine xt_if_eq 17 dX8_pulses_4 rfl (fun _ => ?_) (fun q => absurd (fl0 hx) q)
  refine k_X8_112 dX8_pulses_17 ?_
  exact xt_iret dX8_pulses_19 rfl (lb rfl) (lb rfl) ⟨rfl, rfl, rfl⟩
set_option maxHeartbeats 400000 in
set_option maxRecDepth 100000 in
theorem cn_X8_pulses_b2 {h : ax_H} {n : Nat} {M : Nat} {un iu td aT nu ab be : Int32} {tp mv rd ms mn la : Nat → Int32} {W : Nat → Nat → Int32} {it tk : Nat → Int64} (x y : Int32) (hx : 0 ≤ x ∧ x ≤ 2) (hy : ¬ (0 ≤ y ∧ y ≤ 1)) : ax_C yX8_pulses cX8_pulses 6 (some .int) 6 0 0 [.ref M, .int x, .int y] (mU h M un iu td aT nu ab be (jn W) tp mv rd ms mn la it tk) n (ki ((-1000001)) (mU h M un iu td aT nu ab be (jn W) tp mv rd ms mn la it tk) n) := by
  refine ax_C.go RX8 "pulses" [some (.ref M), some (.int x), some (.int y), none, none, none] rfl rfl pn_X8 (lb rfl) rfl (fun l G cy bs => ?_)
  refine il1 dX8_pulses_0 ?_
  refine s_X8_108 dX8_pulses_1 (cn_X8_isAxis _) ⟨lb rfl, lb rfl, lb rfl, lb rfl⟩ ?_
  refine xt_if_eq 17 dX8_pulses_4 rfl (fun q => absurd q (fl1 hx)) (fun _ => ?_)
  refine il2 dX8_pulses_7 ?_
  refine xt_i2l dX8_pulses_8 ?_
  refine xt_lconst (0) dX8_pulses_9 rfl ?_
  refine xt_lconst (1) dX8_pulses_10 rfl ?_
  refine s_X8_51 dX8_pulses_11 (cn_X8_inI _ (0) (1) rfl rfl) ⟨lb rfl, lb rfl, lb rfl, lb rfl⟩ ?_
  refine xt_if_ne 20 dX8_pulses_14 rfl (fun q => absurd (fl0 hy) q) (fun _ => ?_)
  refine k_X8_112 dX8_pulses_17 ?_
  exact xt_iret dX8_pulses_19 rfl (lb rfl) (lb rfl) ⟨rfl, rfl, rfl⟩
set_option maxHeartbeats 400000 in
set_option maxRecDepth 100000 in
theorem cn_X8_reach_b1 {h : ax_H} {n : Nat} {M : Nat} {un iu td aT nu ab be : Int32} {tp mv rd ms mn la : Nat → Int32} {W : Nat → Nat → Int32} {it tk : Nat → Int64} (x y : Int32) (hx : ¬ (0 ≤ x ∧ x ≤ 2)) : ax_C yX8_reach cX8_reach 5 (some .int) 6 0 0 [.ref M, .int x, .int y] (mU h M un iu td aT nu ab be (jn W) tp mv rd ms mn la it tk) n (ki ((-1000001)) (mU h M un iu td aT nu ab be (jn W) tp mv rd ms mn la it tk) n) := by
  refine ax_C.go RX8 "reach" [some (.ref M), some (.int x), some (.int y), none, none] rfl rfl pn_X8 (lb rfl) rfl (fun l G cy bs => ?_)
  refine il1 dX8_reach_0 ?_
  refine s_X8_108 dX8_reach_1 (cn_X8_isAxis _) ⟨lb rfl, lb rfl, lb rfl, lb rfl⟩ ?_
  refine xt_if_eq 17 dX8_reach_4 rfl (fun _ => ?_) (fun q => absurd (fl0 hx) q)
  refine k_X8_112 dX8_reach_17 ?_
  exact xt_iret dX8_reach_19 rfl (lb rfl) (lb rfl) ⟨rfl, rfl, rfl⟩
set_option maxHeartbeats 400000 in
set_option maxRecDepth 100000 in
theorem cn_X8_reach_b2 {h : ax_H} {n : Nat} {M : Nat} {un iu td aT nu ab be : Int32} {tp mv rd ms mn la : Nat → Int32} {W : Nat → Nat → Int32} {it tk : Nat → Int64} (x y : Int32) (hx : 0 ≤ x ∧ x ≤ 2) (hy : ¬ (0 ≤ y ∧ y ≤ 1)) : ax_C yX8_reach cX8_reach 5 (some .int) 6 0 0 [.ref M, .int x, .int y] (mU h M un iu td aT nu ab be (jn W) tp mv rd ms mn la it tk) n (ki ((-1000001)) (mU h M un iu td aT nu ab be (jn W) tp mv rd ms mn la it tk) n) := by
  refine ax_C.go RX8 "reach" [some (.ref M), some (.int x), some (.int y), none, none] rfl rfl pn_X8 (lb rfl) rfl (fun l G cy bs => ?_)
  refine il1 dX8_reach_0 ?_
  refine s_X8_108 dX8_reach_1 (cn_X8_isAxis _) ⟨lb rfl, lb rfl, lb rfl, lb rfl⟩ ?_
  refine xt_if_eq 17 dX8_reach_4 rfl (fun q => absurd q (fl1 hx)) (fun _ => ?_)
  refine il2 dX8_reach_7 ?_
  refine xt_i2l dX8_reach_8 ?_
  refine xt_lconst (0) dX8_reach_9 rfl ?_
  refine xt_lconst (1) dX8_reach_10 rfl ?_
  refine s_X8_51 dX8_reach_11 (cn_X8_inI _ (0) (1) rfl rfl) ⟨lb rfl, lb rfl, lb rfl, lb rfl⟩ ?_
  refine xt_if_ne 20 dX8_reach_14 rfl (fun q => absurd (fl0 hy) q) (fun _ => ?_)
  refine k_X8_112 dX8_reach_17 ?_
  exact xt_iret dX8_reach_19 rfl (lb rfl) (lb rfl) ⟨rfl, rfl, rfl⟩
set_option maxHeartbeats 400000 in
set_option maxRecDepth 100000 in
theorem cn_X8_pulses {h : ax_H} {n : Nat} {M : Nat} {un iu td aT nu ab be : Int32} {tp mv rd ms mn la : Nat → Int32} {W : Nat → Nat → Int32} {it tk : Nat → Int64} (m : Nat) (hRI0 : RI (W 0) m) (a : Nat) (ha : a < 3) (wh : Int32) (hw : 0 ≤ wh ∧ wh ≤ 1) : ax_C yX8_pulses cX8_pulses 6 (some .int) 6 0 0 [.ref M, .int (nI a), .int wh] (mU h M un iu td aT nu ab be (jn W) tp mv rd ms mn la it tk) n (kE (if wh = 0 then (pulF a (LN (W 0) m) (W 0) (0, 0, 0)).1 else (pulF a (LN (W 0) m) (W 0) (0, 0, 0)).2.2) (MSt h M (un) (iu) (td) (W) (tp) (mn) (la) (it)) n) := by
  refine ax_C.go RX8 "pulses" [some (.ref M), some (.int (nI a)), some (.int wh), none, none, none] rfl rfl pn_X8 (lb rfl) rfl (fun l G cy bs => ?_)
  have lp : ∀ (L : Nat) (s1 s2 s3 : Int32) (r1 mv1 : Nat → Int32) (m1 : Nat), RI r1 m1 → LN r1 m1 = L → pulF a L r1 (s1, s2, s3) = (pulF a (LN (W 0) m) (W 0) (0, 0, 0)) → ax_T l G cy bs (ax_rm 6 0 0) RX8 "pulses" cX8_pulses 6 (some .int) (kE (if wh = 0 then (pulF a (LN (W 0) m) (W 0) (0, 0, 0)).1 else (pulF a (LN (W 0) m) (W 0) (0, 0, 0)).2.2) (MSt h M (un) (iu) (td) (W) (tp) (mn) (la) (it)) n) 0 0 35 [some (.ref M), some (.int (nI a)), some (.int wh), some (.int s1), some (.int s2), some (.int s3)] [] (mU h M un iu td aT nu ab be (jn (va_up W 1 r1)) tp (mv1) rd ms mn la it tk) n 0 0 := by
    intro L
    induction L with
    | zero =>
      intro s1 s2 s3 r1 mv1 m1 hRI hL hr
      refine al0 dX8_pulses_35 ?_
      refine xt_bipush (61) dX8_pulses_36 rfl ?_
      refine s_X8_175 dX8_pulses_38 (cn_X8_stepsI (q := 1) (by omega) hRI) mU_0 ⟨lb rfl, lb rfl, lb rfl, lb rfl⟩ ?_
      refine xt_if_eq 99 dX8_pulses_41 rfl (fun c41 => ?_) (fun c41 => ?_)
      · have hx := (nx_0 c41).1
        rw [hx]
        have hr : (s1, s2, s3) = (pulF a (LN (W 0) m) (W 0) (0, 0, 0)) := hr
        refine il2 dX8_pulses_99 ?_
        apply xj_if_ne 107 dX8_pulses_100 rfl
        · intro k100
          refine ⟨fun c100 => ?_, fun c100 => ?_⟩
          · refine il5 dX8_pulses_107 ?_
            exact xt_in1 k100 c100
          · refine il3 dX8_pulses_103 ?_
            refine xt_goto 109 dX8_pulses_104 rfl ?_
            exact xt_in2 k100 c100
        · skip
          exact xt_iret dX8_pulses_109 rfl (lb rfl) (lb rfl) ⟨by rw [← hr], MSt_r, rfl⟩
      · exact absurd ((LN_flag hRI).mpr hL) c41
    | succ L ih =>
      intro s1 s2 s3 r1 mv1 m1 hRI hL hr
      refine al0 dX8_pulses_35 ?_
      refine xt_bipush (61) dX8_pulses_36 rfl ?_
      refine s_X8_175 dX8_pulses_38 (cn_X8_stepsI (q := 1) (by omega) hRI) mU_0 ⟨lb rfl, lb rfl, lb rfl, lb rfl⟩ ?_
      refine xt_if_eq 99 dX8_pulses_41 rfl (fun c41 => ?_) (fun c41 => ?_)
      · exact absurd ((LN_flag hRI).mp c41) (by omega)
      · obtain ⟨m2, -, hRI2, hL2⟩ := RI_step hRI c41
        refine il3 dX8_pulses_44 ?_
        refine al0 dX8_pulses_45 ?_
        refine g_X8_20 dX8_pulses_46 mU_0 ?_
        refine il1 dX8_pulses_49 ?_
        refine xt_iald (a) mU_3 (by omega) rfl (by decide) dX8_pulses_50 ?_
        refine xt_eqv (mo r1 a) (mv_mo hRI ha) ?_
        apply xj_if_eq 58 dX8_pulses_51 rfl
        · intro k51
          refine ⟨fun c51 => ?_, fun c51 => ?_⟩
          · refine xt_iconst (0) dX8_pulses_58 rfl ?_
            exact xt_it1 k51 c51
          · refine xt_iconst (1) dX8_pulses_54 rfl ?_
            refine xt_goto 59 dX8_pulses_55 rfl ?_
            exact xt_it2 k51 c51
        · skip
          refine xt_iadd dX8_pulses_59 ?_
          refine is3 dX8_pulses_60 (by decide) rfl ?_
          refine al0 dX8_pulses_61 ?_
          refine g_X8_20 dX8_pulses_62 mU_0 ?_
          refine il1 dX8_pulses_65 ?_
          refine xt_iald (a) mU_3 (by omega) rfl (by decide) dX8_pulses_66 ?_
          refine xt_eqv (mo r1 a) (mv_mo hRI ha) ?_
          apply xj_if_eq 74 dX8_pulses_67 rfl
          · intro k67
            refine ⟨fun c67 => ?_, fun c67 => ?_⟩
            · refine il4 dX8_pulses_74 ?_
              refine xt_iconst (1) dX8_pulses_76 rfl ?_
              refine xt_iadd dX8_pulses_77 ?_
              exact xt_it1 k67 c67
            · refine xt_iconst (0) dX8_pulses_70 rfl ?_
              refine xt_goto 78 dX8_pulses_71 rfl ?_
              exact xt_it2 k67 c67
          · skip
            refine is4 dX8_pulses_78 (by decide) rfl ?_
            refine il4 dX8_pulses_80 ?_
            refine il5 dX8_pulses_82 ?_
            apply xj_icmp_le 92 dX8_pulses_84 rfl
            · intro k84
              refine ⟨fun c84 => ?_, fun c84 => ?_⟩
              · refine il5 dX8_pulses_92 ?_
                exact xt_it1 k84 c84
              · refine il4 dX8_pulses_87 ?_
                refine xt_goto 94 dX8_pulses_89 rfl ?_
                exact xt_it2 k84 c84
            · skip
              refine is5 dX8_pulses_94 (by decide) rfl ?_
              refine xt_goto 35 dX8_pulses_96 rfl ?_
              exact ih _ _ _ _ _ m2 hRI2 (by omega) hr
  refine il1 dX8_pulses_0 ?_
  refine s_X8_108 dX8_pulses_1 (cn_X8_isAxis _) ⟨lb rfl, lb rfl, lb rfl, lb rfl⟩ ?_
  refine xt_if_eq 17 dX8_pulses_4 rfl (fun q => absurd q (fl1 ⟨nI_pos' (by omega), nI_le (b := 2) (by omega) (by decide)⟩)) (fun _ => ?_)
  refine il2 dX8_pulses_7 ?_
  refine xt_i2l dX8_pulses_8 ?_
  refine xt_lconst (0) dX8_pulses_9 rfl ?_
  refine xt_lconst (1) dX8_pulses_10 rfl ?_
  refine s_X8_51 dX8_pulses_11 (cn_X8_inI _ (0) (1) rfl rfl) ⟨lb rfl, lb rfl, lb rfl, lb rfl⟩ ?_
  refine xt_if_ne 20 dX8_pulses_14 rfl (fun _ => ?_) (fun q => absurd q (fl1 hw))
  refine al0 dX8_pulses_20 ?_
  refine xt_iconst (0) dX8_pulses_21 rfl ?_
  refine xt_bipush (61) dX8_pulses_22 rfl ?_
  refine s_X8_45 dX8_pulses_24 (cn_X8_copyRow 0 1 (by omega) (by omega) (by omega)) mU_0 ⟨lb rfl, lb rfl, lb rfl, lb rfl⟩ ?_
  refine xt_iconst (0) dX8_pulses_27 rfl ?_
  refine is3 dX8_pulses_28 (by decide) rfl ?_
  refine xt_iconst (0) dX8_pulses_29 rfl ?_
  refine is4 dX8_pulses_30 (by decide) rfl ?_
  refine xt_iconst (0) dX8_pulses_32 rfl ?_
  refine is5 dX8_pulses_33 (by decide) rfl ?_
  exact lp _ _ _ _ _ _ m hRI0 rfl rfl
set_option maxHeartbeats 400000 in
set_option maxRecDepth 100000 in
theorem cn_X8_next_b1 {h : ax_H} {n : Nat} {M : Nat} {un iu td aT nu ab be : Int32} {tp mv rd ms mn la : Nat → Int32} {W : Nat → Nat → Int32} {it tk : Nat → Int64} (x y : Int32) (hx : ¬ (0 ≤ x ∧ x ≤ 2)) : ax_C yX8_next cX8_next 4 (some .int) 6 0 0 [.ref M, .int x, .int y] (mU h M un iu td aT nu ab be (jn W) tp mv rd ms mn la it tk) n (ki ((-1000001)) (mU h M un iu td aT nu ab be (jn W) tp mv rd ms mn la it tk) n) := by
  refine ax_C.go RX8 "next" [some (.ref M), some (.int x), some (.int y), none] rfl rfl pn_X8 (lb rfl) rfl (fun l G cy bs => ?_)
  refine il1 dX8_next_0 ?_
  refine s_X8_108 dX8_next_1 (cn_X8_isAxis _) ⟨lb rfl, lb rfl, lb rfl, lb rfl⟩ ?_
  refine xt_if_eq 11 dX8_next_4 rfl (fun _ => ?_) (fun q => absurd (fl0 hx) q)
  refine k_X8_112 dX8_next_11 ?_
  exact xt_iret dX8_next_13 rfl (lb rfl) (lb rfl) ⟨rfl, rfl, rfl⟩
set_option maxHeartbeats 400000 in
set_option maxRecDepth 100000 in
theorem cn_X8_next_b2 {h : ax_H} {n : Nat} {M : Nat} {un iu td aT nu ab be : Int32} {tp mv rd ms mn la : Nat → Int32} {W : Nat → Nat → Int32} {it tk : Nat → Int64} (x y : Int32) (hx : 0 ≤ x ∧ x ≤ 2) (hy : ¬ 0 ≤ y) : ax_C yX8_next cX8_next 4 (some .int) 6 0 0 [.ref M, .int x, .int y] (mU h M un iu td aT nu ab be (jn W) tp mv rd ms mn la it tk) n (ki ((-1000001)) (mU h M un iu td aT nu ab be (jn W) tp mv rd ms mn la it tk) n) := by
  refine ax_C.go RX8 "next" [some (.ref M), some (.int x), some (.int y), none] rfl rfl pn_X8 (lb rfl) rfl (fun l G cy bs => ?_)
  refine il1 dX8_next_0 ?_
  refine s_X8_108 dX8_next_1 (cn_X8_isAxis _) ⟨lb rfl, lb rfl, lb rfl, lb rfl⟩ ?_
  refine xt_if_eq 11 dX8_next_4 rfl (fun q => absurd q (fl1 hx)) (fun _ => ?_)
  refine il2 dX8_next_7 ?_
  refine xt_if_ge 14 dX8_next_8 rfl (fun q => absurd q hy) (fun _ => ?_)
  refine k_X8_112 dX8_next_11 ?_
  exact xt_iret dX8_next_13 rfl (lb rfl) (lb rfl) ⟨rfl, rfl, rfl⟩
set_option maxHeartbeats 400000 in
set_option maxRecDepth 100000 in
theorem cn_X8_next {h : ax_H} {n : Nat} {M : Nat} {un iu td aT nu ab be : Int32} {tp mv rd ms mn la : Nat → Int32} {W : Nat → Nat → Int32} {it tk : Nat → Int64} (m : Nat) (hRI0 : RI (W 0) m) (a : Nat) (ha : a < 3) (k0 : Int32) (hk : 0 ≤ k0) : ax_C yX8_next cX8_next 4 (some .int) 6 0 0 [.ref M, .int (nI a), .int k0] (mU h M un iu td aT nu ab be (jn W) tp mv rd ms mn la it tk) n (kE (nexF a k0 (LN (W 0) m) 0 (W 0)) (MSt h M (un) (iu) (td) (W) (tp) (mn) (la) (it)) n) := by
  refine ax_C.go RX8 "next" [some (.ref M), some (.int (nI a)), some (.int k0), none] rfl rfl pn_X8 (lb rfl) rfl (fun l G cy bs => ?_)
  have lp : ∀ (L : Nat) (i : Nat) (r1 mv1 : Nat → Int32) (m1 : Nat), RI r1 m1 → LN r1 m1 = L → nexF a k0 L i r1 = nexF a k0 (LN (W 0) m) 0 (W 0) → ax_T l G cy bs (ax_rm 6 0 0) RX8 "next" cX8_next 4 (some .int) (kE (nexF a k0 (LN (W 0) m) 0 (W 0)) (MSt h M (un) (iu) (td) (W) (tp) (mn) (la) (it)) n) 0 0 23 [some (.ref M), some (.int (nI a)), some (.int k0), some (.int (nI i))] [] (mU h M un iu td aT nu ab be (jn (va_up W 1 r1)) tp (mv1) rd ms mn la it tk) n 0 0 := by
    intro L
    induction L with
    | zero =>
      intro i r1 mv1 m1 hRI hL hr
      refine al0 dX8_next_23 ?_
      refine xt_bipush (61) dX8_next_24 rfl ?_
      refine s_X8_175 dX8_next_26 (cn_X8_stepsI (q := 1) (by omega) hRI) mU_0 ⟨lb rfl, lb rfl, lb rfl, lb rfl⟩ ?_
      refine xt_if_eq 54 dX8_next_29 rfl (fun c29 => ?_) (fun c29 => ?_)
      · have hr : (-1000004 : Int32) = nexF a k0 (LN (W 0) m) 0 (W 0) := hr
        refine k_X8_115 dX8_next_54 ?_
        exact xt_iret dX8_next_56 rfl (lb rfl) (lb rfl) ⟨by rw [← hr], MSt_r, rfl⟩
      · exact absurd ((LN_flag hRI).mpr hL) c29
    | succ L ih =>
      intro i r1 mv1 m1 hRI hL hr
      refine al0 dX8_next_23 ?_
      refine xt_bipush (61) dX8_next_24 rfl ?_
      refine s_X8_175 dX8_next_26 (cn_X8_stepsI (q := 1) (by omega) hRI) mU_0 ⟨lb rfl, lb rfl, lb rfl, lb rfl⟩ ?_
      refine xt_if_eq 54 dX8_next_29 rfl (fun c29 => ?_) (fun c29 => ?_)
      · exact absurd ((LN_flag hRI).mp c29) (by omega)
      · obtain ⟨m2, -, hRI2, hL2⟩ := RI_step hRI c29
        refine il3 dX8_next_32 ?_
        refine il2 dX8_next_33 ?_
        refine xt_icmp_lt 48 dX8_next_34 rfl (fun c34 => ?_) (fun c34 => ?_)
        · refine inc3 (nI (i + 1)) dX8_next_48 (nI_1 _) (by decide) rfl ?_
          refine xt_goto 23 dX8_next_51 rfl ?_
          exact ih _ _ _ m2 hRI2 (by omega) (by rw [← hr]; show _ = (if nI i < k0 then _ else if mo r1 a = 0 then _ else _); rw [if_pos c34])
        · refine al0 dX8_next_37 ?_
          refine g_X8_20 dX8_next_38 mU_0 ?_
          refine il1 dX8_next_41 ?_
          refine xt_iald (a) mU_3 (by omega) rfl (by decide) dX8_next_42 ?_
          refine xt_eqv (mo r1 a) (mv_mo hRI ha) ?_
          refine xt_if_eq 48 dX8_next_43 rfl (fun c43 => ?_) (fun c43 => ?_)
          · refine inc3 (nI (i + 1)) dX8_next_48 (nI_1 _) (by decide) rfl ?_
            refine xt_goto 23 dX8_next_51 rfl ?_
            exact ih _ _ _ m2 hRI2 (by omega) (by rw [← hr]; show _ = (if nI i < k0 then _ else if mo r1 a = 0 then _ else _); rw [if_neg c34, if_pos c43])
          · refine il3 dX8_next_46 ?_
            exact xt_iret dX8_next_47 rfl (lb rfl) (lb rfl) ⟨by rw [← hr]; show _ = some (Value.int (if nI i < k0 then _ else if mo r1 a = 0 then _ else _)); rw [if_neg c34, if_neg c43], MSt_r, rfl⟩
  refine il1 dX8_next_0 ?_
  refine s_X8_108 dX8_next_1 (cn_X8_isAxis _) ⟨lb rfl, lb rfl, lb rfl, lb rfl⟩ ?_
  refine xt_if_eq 11 dX8_next_4 rfl (fun q => absurd q (fl1 ⟨nI_pos' (by omega), nI_le (b := 2) (by omega) (by decide)⟩)) (fun _ => ?_)
  refine il2 dX8_next_7 ?_
  refine xt_if_ge 14 dX8_next_8 rfl (fun _ => ?_) (fun q => absurd hk q)
  refine al0 dX8_next_14 ?_
  refine xt_iconst (0) dX8_next_15 rfl ?_
  refine xt_bipush (61) dX8_next_16 rfl ?_
  refine s_X8_45 dX8_next_18 (cn_X8_copyRow 0 1 (by omega) (by omega) (by omega)) mU_0 ⟨lb rfl, lb rfl, lb rfl, lb rfl⟩ ?_
  refine xt_iconst (0) dX8_next_21 rfl ?_
  refine is3 dX8_next_22 (by decide) rfl ?_
  exact lp _ 0 _ _ m hRI0 rfl rfl
set_option maxHeartbeats 400000 in
set_option maxRecDepth 100000 in
theorem cn_X8_meets {h : ax_H} {n : Nat} {M : Nat} {un iu td aT nu ab be : Int32} {tp mv rd ms mn la : Nat → Int32} {W : Nat → Nat → Int32} {it tk : Nat → Int64} (m : Nat) (hRI0 : RI (W 0) m) (x y z : Int32) : ax_C yX8_meets cX8_meets 6 (some .int) 6 0 0 [.ref M, .int x, .int y, .int z] (mU h M un iu td aT nu ab be (jn W) tp mv rd ms mn la it tk) n (kE (metF x y z (LN (W 0) m) 0 (W 0)) (MSt h M (un) (iu) (td) (W) (tp) (mn) (la) (it)) n) := by
  refine ax_C.go RX8 "meets" [some (.ref M), some (.int x), some (.int y), some (.int z), none, none] rfl rfl pn_X8 (lb rfl) rfl (fun l G cy bs => ?_)
  have lp : ∀ (L : Nat) (i : Nat) (r1 mv1 : Nat → Int32) (m1 : Nat), RI r1 m1 → LN r1 m1 = L → metF x y z L i r1 = metF x y z (LN (W 0) m) 0 (W 0) → ax_T l G cy bs (ax_rm 6 0 0) RX8 "meets" cX8_meets 6 (some .int) (kE (metF x y z (LN (W 0) m) 0 (W 0)) (MSt h M (un) (iu) (td) (W) (tp) (mn) (la) (it)) n) 0 0 13 [some (.ref M), some (.int x), some (.int y), some (.int z), some (.int (nI i)), some (.int 1)] [] (mU h M un iu td aT nu ab be (jn (va_up W 1 r1)) tp (mv1) rd ms mn la it tk) n 0 0 := by
    intro L
    induction L with
    | zero =>
      intro i r1 mv1 m1 hRI hL hr
      refine il5 dX8_meets_13 ?_
      refine xt_if_eq 68 dX8_meets_15 rfl (fun q => absurd q (by decide)) (fun _ => ?_)
      refine al0 dX8_meets_18 ?_
      refine g_X8_7 dX8_meets_19 mU_0 ?_
      refine xt_bipush (61) dX8_meets_22 rfl ?_
      refine xt_iald (61) mU_1 (by omega) rfl (by decide) dX8_meets_24 ?_
      refine xt_top (congrArg Value.int (jnr (c := 0) (by omega) (by omega))) ?_
      refine il1 dX8_meets_25 ?_
      refine xt_icmp_ne 54 dX8_meets_26 rfl (fun c26 => ?_) (fun c26 => ?_)
      · refine al0 dX8_meets_54 ?_
        refine xt_bipush (61) dX8_meets_55 rfl ?_
        refine s_X8_175 dX8_meets_57 (cn_X8_stepsI (q := 1) (by omega) hRI) mU_0 ⟨lb rfl, lb rfl, lb rfl, lb rfl⟩ ?_
        refine is5 dX8_meets_60 (by decide) rfl ?_
        have hr : (if r1 0 = x then (if r1 1 = y then (if r1 2 = z then nI i else -1000004) else -1000004) else -1000004) = metF x y z (LN (W 0) m) 0 (W 0) := hr
        rw [if_neg c26] at hr
        rw [(LN_flag hRI).mpr hL]
        refine inc4 (nI (i + 1)) dX8_meets_62 (nI_1 _) (by decide) rfl ?_
        refine xt_goto 13 dX8_meets_65 rfl ?_
        refine il5 dX8_meets_13 ?_
        refine xt_if_eq 68 dX8_meets_15 rfl (fun _ => ?_) (fun q => absurd rfl q)
        refine k_X8_115 dX8_meets_68 ?_
        exact xt_iret dX8_meets_70 rfl (lb rfl) (lb rfl) ⟨by rw [← hr], MSt_r, rfl⟩
      · refine al0 dX8_meets_29 ?_
        refine g_X8_7 dX8_meets_30 mU_0 ?_
        refine xt_bipush (62) dX8_meets_33 rfl ?_
        refine xt_iald (62) mU_1 (by omega) rfl (by decide) dX8_meets_35 ?_
        refine xt_top (congrArg Value.int (jnr (c := 1) (by omega) (by omega))) ?_
        refine il2 dX8_meets_36 ?_
        refine xt_icmp_ne 54 dX8_meets_37 rfl (fun c37 => ?_) (fun c37 => ?_)
        · refine al0 dX8_meets_54 ?_
          refine xt_bipush (61) dX8_meets_55 rfl ?_
          refine s_X8_175 dX8_meets_57 (cn_X8_stepsI (q := 1) (by omega) hRI) mU_0 ⟨lb rfl, lb rfl, lb rfl, lb rfl⟩ ?_
          refine is5 dX8_meets_60 (by decide) rfl ?_
          have hr : (if r1 0 = x then (if r1 1 = y then (if r1 2 = z then nI i else -1000004) else -1000004) else -1000004) = metF x y z (LN (W 0) m) 0 (W 0) := hr
          rw [if_pos c26, if_neg c37] at hr
          rw [(LN_flag hRI).mpr hL]
          refine inc4 (nI (i + 1)) dX8_meets_62 (nI_1 _) (by decide) rfl ?_
          refine xt_goto 13 dX8_meets_65 rfl ?_
          refine il5 dX8_meets_13 ?_
          refine xt_if_eq 68 dX8_meets_15 rfl (fun _ => ?_) (fun q => absurd rfl q)
          refine k_X8_115 dX8_meets_68 ?_
          exact xt_iret dX8_meets_70 rfl (lb rfl) (lb rfl) ⟨by rw [← hr], MSt_r, rfl⟩
        · refine al0 dX8_meets_40 ?_
          refine g_X8_7 dX8_meets_41 mU_0 ?_
          refine xt_bipush (63) dX8_meets_44 rfl ?_
          refine xt_iald (63) mU_1 (by omega) rfl (by decide) dX8_meets_46 ?_
          refine xt_top (congrArg Value.int (jnr (c := 2) (by omega) (by omega))) ?_
          refine il3 dX8_meets_47 ?_
          refine xt_icmp_ne 54 dX8_meets_48 rfl (fun c48 => ?_) (fun c48 => ?_)
          · refine al0 dX8_meets_54 ?_
            refine xt_bipush (61) dX8_meets_55 rfl ?_
            refine s_X8_175 dX8_meets_57 (cn_X8_stepsI (q := 1) (by omega) hRI) mU_0 ⟨lb rfl, lb rfl, lb rfl, lb rfl⟩ ?_
            refine is5 dX8_meets_60 (by decide) rfl ?_
            have hr : (if r1 0 = x then (if r1 1 = y then (if r1 2 = z then nI i else -1000004) else -1000004) else -1000004) = metF x y z (LN (W 0) m) 0 (W 0) := hr
            rw [if_pos c26, if_pos c37, if_neg c48] at hr
            rw [(LN_flag hRI).mpr hL]
            refine inc4 (nI (i + 1)) dX8_meets_62 (nI_1 _) (by decide) rfl ?_
            refine xt_goto 13 dX8_meets_65 rfl ?_
            refine il5 dX8_meets_13 ?_
            refine xt_if_eq 68 dX8_meets_15 rfl (fun _ => ?_) (fun q => absurd rfl q)
            refine k_X8_115 dX8_meets_68 ?_
            exact xt_iret dX8_meets_70 rfl (lb rfl) (lb rfl) ⟨by rw [← hr], MSt_r, rfl⟩
          · refine il4 dX8_meets_51 ?_
            exact xt_iret dX8_meets_53 rfl (lb rfl) (lb rfl) ⟨by rw [← hr]; show _ = some (Value.int (if r1 0 = x then (if r1 1 = y then (if r1 2 = z then _ else _) else _) else _)); rw [if_pos c26, if_pos c37, if_pos c48], MSt_r, rfl⟩
    | succ L ih =>
      intro i r1 mv1 m1 hRI hL hr
      refine il5 dX8_meets_13 ?_
      refine xt_if_eq 68 dX8_meets_15 rfl (fun q => absurd q (by decide)) (fun _ => ?_)
      refine al0 dX8_meets_18 ?_
      refine g_X8_7 dX8_meets_19 mU_0 ?_
      refine xt_bipush (61) dX8_meets_22 rfl ?_
      refine xt_iald (61) mU_1 (by omega) rfl (by decide) dX8_meets_24 ?_
      refine xt_top (congrArg Value.int (jnr (c := 0) (by omega) (by omega))) ?_
      refine il1 dX8_meets_25 ?_
      refine xt_icmp_ne 54 dX8_meets_26 rfl (fun c26 => ?_) (fun c26 => ?_)
      · refine al0 dX8_meets_54 ?_
        refine xt_bipush (61) dX8_meets_55 rfl ?_
        refine s_X8_175 dX8_meets_57 (cn_X8_stepsI (q := 1) (by omega) hRI) mU_0 ⟨lb rfl, lb rfl, lb rfl, lb rfl⟩ ?_
        refine is5 dX8_meets_60 (by decide) rfl ?_
        have hr : (if r1 0 = x then (if r1 1 = y then (if r1 2 = z then nI i else metF x y z L (i + 1) (nx r1)) else metF x y z L (i + 1) (nx r1)) else metF x y z L (i + 1) (nx r1)) = metF x y z (LN (W 0) m) 0 (W 0) := hr
        rw [if_neg c26] at hr
        have hf : ¬ rFlag r1 = 0 := fun q => absurd ((LN_flag hRI).mp q) (by omega)
        obtain ⟨m2, -, hRI2, hL2⟩ := RI_step hRI hf
        rw [(rf01 r1).resolve_left hf]
        refine inc4 (nI (i + 1)) dX8_meets_62 (nI_1 _) (by decide) rfl ?_
        refine xt_goto 13 dX8_meets_65 rfl ?_
        exact ih _ _ _ m2 hRI2 (by omega) hr
      · refine al0 dX8_meets_29 ?_
        refine g_X8_7 dX8_meets_30 mU_0 ?_
        refine xt_bipush (62) dX8_meets_33 rfl ?_
        refine xt_iald (62) mU_1 (by omega) rfl (by decide) dX8_meets_35 ?_
        refine xt_top (congrArg Value.int (jnr (c := 1) (by omega) (by omega))) ?_
        refine il2 dX8_meets_36 ?_
        refine xt_icmp_ne 54 dX8_meets_37 rfl (fun c37 => ?_) (fun c37 => ?_)
        · refine al0 dX8_meets_54 ?_
          refine xt_bipush (61) dX8_meets_55 rfl ?_
          refine s_X8_175 dX8_meets_57 (cn_X8_stepsI (q := 1) (by omega) hRI) mU_0 ⟨lb rfl, lb rfl, lb rfl, lb rfl⟩ ?_
          refine is5 dX8_meets_60 (by decide) rfl ?_
          have hr : (if r1 0 = x then (if r1 1 = y then (if r1 2 = z then nI i else metF x y z L (i + 1) (nx r1)) else metF x y z L (i + 1) (nx r1)) else metF x y z L (i + 1) (nx r1)) = metF x y z (LN (W 0) m) 0 (W 0) := hr
          rw [if_pos c26, if_neg c37] at hr
          have hf : ¬ rFlag r1 = 0 := fun q => absurd ((LN_flag hRI).mp q) (by omega)
          obtain ⟨m2, -, hRI2, hL2⟩ := RI_step hRI hf
          rw [(rf01 r1).resolve_left hf]
          refine inc4 (nI (i + 1)) dX8_meets_62 (nI_1 _) (by decide) rfl ?_
          refine xt_goto 13 dX8_meets_65 rfl ?_
          exact ih _ _ _ m2 hRI2 (by omega) hr
        · refine al0 dX8_meets_40 ?_
          refine g_X8_7 dX8_meets_41 mU_0 ?_
          refine xt_bipush (63) dX8_meets_44 rfl ?_
          refine xt_iald (63) mU_1 (by omega) rfl (by decide) dX8_meets_46 ?_
          refine xt_top (congrArg Value.int (jnr (c := 2) (by omega) (by omega))) ?_
          refine il3 dX8_meets_47 ?_
          refine xt_icmp_ne 54 dX8_meets_48 rfl (fun c48 => ?_) (fun c48 => ?_)
          · refine al0 dX8_meets_54 ?_
            refine xt_bipush (61) dX8_meets_55 rfl ?_
            refine s_X8_175 dX8_meets_57 (cn_X8_stepsI (q := 1) (by omega) hRI) mU_0 ⟨lb rfl, lb rfl, lb rfl, lb rfl⟩ ?_
            refine is5 dX8_meets_60 (by decide) rfl ?_
            have hr : (if r1 0 = x then (if r1 1 = y then (if r1 2 = z then nI i else metF x y z L (i + 1) (nx r1)) else metF x y z L (i + 1) (nx r1)) else metF x y z L (i + 1) (nx r1)) = metF x y z (LN (W 0) m) 0 (W 0) := hr
            rw [if_pos c26, if_pos c37, if_neg c48] at hr
            have hf : ¬ rFlag r1 = 0 := fun q => absurd ((LN_flag hRI).mp q) (by omega)
            obtain ⟨m2, -, hRI2, hL2⟩ := RI_step hRI hf
            rw [(rf01 r1).resolve_left hf]
            refine inc4 (nI (i + 1)) dX8_meets_62 (nI_1 _) (by decide) rfl ?_
            refine xt_goto 13 dX8_meets_65 rfl ?_
            exact ih _ _ _ m2 hRI2 (by omega) hr
          · refine il4 dX8_meets_51 ?_
            exact xt_iret dX8_meets_53 rfl (lb rfl) (lb rfl) ⟨by rw [← hr]; show _ = some (Value.int (if r1 0 = x then (if r1 1 = y then (if r1 2 = z then _ else _) else _) else _)); rw [if_pos c26, if_pos c37, if_pos c48], MSt_r, rfl⟩
  refine al0 dX8_meets_0 ?_
  refine xt_iconst (0) dX8_meets_1 rfl ?_
  refine xt_bipush (61) dX8_meets_2 rfl ?_
  refine s_X8_45 dX8_meets_4 (cn_X8_copyRow 0 1 (by omega) (by omega) (by omega)) mU_0 ⟨lb rfl, lb rfl, lb rfl, lb rfl⟩ ?_
  refine xt_iconst (0) dX8_meets_7 rfl ?_
  refine is4 dX8_meets_8 (by decide) rfl ?_
  refine xt_iconst (1) dX8_meets_10 rfl ?_
  refine is5 dX8_meets_11 (by decide) rfl ?_
  exact lp _ 0 _ _ m hRI0 rfl rfl
set_option maxHeartbeats 400000 in
set_option maxRecDepth 100000 in
theorem cn_X8_reach {h : ax_H} {n : Nat} {M : Nat} {un iu td aT nu ab be : Int32} {tp mv rd ms mn la : Nat → Int32} {W : Nat → Nat → Int32} {it tk : Nat → Int64} (m : Nat) (hRI0 : RI (W 0) m) (a : Nat) (ha : a < 3) (wh : Int32) (hw : 0 ≤ wh ∧ wh ≤ 1) : ax_C yX8_reach cX8_reach 5 (some .int) 6 0 0 [.ref M, .int (nI a), .int wh] (mU h M un iu td aT nu ab be (jn W) tp mv rd ms mn la it tk) n (kE (reaF a wh (LN (W 0) m) (W 0) (W 0 a)) (MSt h M (un) (iu) (td) (W) (tp) (mn) (la) (it)) n) := by
  refine ax_C.go RX8 "reach" [some (.ref M), some (.int (nI a)), some (.int wh), none, none] rfl rfl pn_X8 (lb rfl) rfl (fun l G cy bs => ?_)
  have lp : ∀ (L : Nat) (A : Option Value) (e1 : Int32) (r1 mv1 : Nat → Int32) (m1 : Nat), RI r1 m1 → LN r1 m1 = L → reaF a wh L r1 e1 = reaF a wh (LN (W 0) m) (W 0) (W 0 a) → ax_T l G cy bs (ax_rm 6 0 0) RX8 "reach" cX8_reach 5 (some .int) (kE (reaF a wh (LN (W 0) m) (W 0) (W 0 a)) (MSt h M (un) (iu) (td) (W) (tp) (mn) (la) (it)) n) 0 0 34 [some (.ref M), some (.int (nI a)), some (.int wh), some (.int e1), A] [] (mU h M un iu td aT nu ab be (jn (va_up W 1 r1)) tp (mv1) rd ms mn la it tk) n 0 0 := by
    intro L
    induction L with
    | zero =>
      intro A e1 r1 mv1 m1 hRI hL hr
      refine al0 dX8_reach_34 ?_
      refine xt_bipush (61) dX8_reach_35 rfl ?_
      refine s_X8_175 dX8_reach_37 (cn_X8_stepsI (q := 1) (by omega) hRI) mU_0 ⟨lb rfl, lb rfl, lb rfl, lb rfl⟩ ?_
      refine xt_if_eq 89 dX8_reach_40 rfl (fun c40 => ?_) (fun c40 => ?_)
      · have hr : e1 = reaF a wh (LN (W 0) m) (W 0) (W 0 a) := hr
        refine il3 dX8_reach_89 ?_
        exact xt_iret dX8_reach_90 rfl (lb rfl) (lb rfl) ⟨by rw [← hr], MSt_r, rfl⟩
      · exact absurd ((LN_flag hRI).mpr hL) c40
    | succ L ih =>
      intro A e1 r1 mv1 m1 hRI hL hr
      refine al0 dX8_reach_34 ?_
      refine xt_bipush (61) dX8_reach_35 rfl ?_
      refine s_X8_175 dX8_reach_37 (cn_X8_stepsI (q := 1) (by omega) hRI) mU_0 ⟨lb rfl, lb rfl, lb rfl, lb rfl⟩ ?_
      refine xt_if_eq 89 dX8_reach_40 rfl (fun c40 => ?_) (fun c40 => ?_)
      · exact absurd ((LN_flag hRI).mp c40) (by omega)
      · obtain ⟨m2, -, hRI2, hL2⟩ := RI_step hRI c40
        refine al0 dX8_reach_43 ?_
        refine g_X8_7 dX8_reach_44 mU_0 ?_
        refine xt_bipush (61) dX8_reach_47 rfl ?_
        refine il1 dX8_reach_49 ?_
        refine xt_iadd dX8_reach_50 ?_
        refine xt_iald (61 + a) mU_1 (by omega) (ne_add (a := 61) (b := a) rfl rfl) (by decide) dX8_reach_51 ?_
        refine xt_top (congrArg Value.int (jnr (c := a) (by omega) (by omega))) ?_
        refine is4 dX8_reach_52 (by decide) rfl ?_
        refine il2 dX8_reach_54 ?_
        apply xj_if_ne 73 dX8_reach_55 rfl
        · intro k55
          refine ⟨fun c55 => ?_, fun c55 => ?_⟩
          · refine il4 dX8_reach_73 ?_
            refine il3 dX8_reach_75 ?_
            apply xj_icmp_le 84 dX8_reach_76 rfl
            · intro k76
              refine ⟨fun c76 => ?_, fun c76 => ?_⟩
              · refine il3 dX8_reach_84 ?_
                exact xt_it1 k76 c76
              · refine il4 dX8_reach_79 ?_
                refine xt_goto 85 dX8_reach_81 rfl ?_
                exact xt_it2 k76 c76
            · skip
              exact xt_in1 k55 c55
          · refine il4 dX8_reach_58 ?_
            refine il3 dX8_reach_60 ?_
            apply xj_icmp_ge 69 dX8_reach_61 rfl
            · intro k61
              refine ⟨fun c61 => ?_, fun c61 => ?_⟩
              · refine il3 dX8_reach_69 ?_
                refine xt_goto 85 dX8_reach_70 rfl ?_
                exact xt_it1 k61 c61
              · refine il4 dX8_reach_64 ?_
                refine xt_goto 85 dX8_reach_66 rfl ?_
                exact xt_it2 k61 c61
            · skip
              exact xt_in2 k55 c55
        · skip
          refine is3 dX8_reach_85 (by decide) rfl ?_
          refine xt_goto 34 dX8_reach_86 rfl ?_
          exact ih _ _ _ _ m2 hRI2 (by omega) hr
  refine il1 dX8_reach_0 ?_
  refine s_X8_108 dX8_reach_1 (cn_X8_isAxis _) ⟨lb rfl, lb rfl, lb rfl, lb rfl⟩ ?_
  refine xt_if_eq 17 dX8_reach_4 rfl (fun q => absurd q (fl1 ⟨nI_pos' (by omega), nI_le (b := 2) (by omega) (by decide)⟩)) (fun _ => ?_)
  refine il2 dX8_reach_7 ?_
  refine xt_i2l dX8_reach_8 ?_
  refine xt_lconst (0) dX8_reach_9 rfl ?_
  refine xt_lconst (1) dX8_reach_10 rfl ?_
  refine s_X8_51 dX8_reach_11 (cn_X8_inI _ (0) (1) rfl rfl) ⟨lb rfl, lb rfl, lb rfl, lb rfl⟩ ?_
  refine xt_if_ne 20 dX8_reach_14 rfl (fun _ => ?_) (fun q => absurd q (fl1 hw))
  refine al0 dX8_reach_20 ?_
  refine xt_iconst (0) dX8_reach_21 rfl ?_
  refine xt_bipush (61) dX8_reach_22 rfl ?_
  refine s_X8_45 dX8_reach_24 (cn_X8_copyRow 0 1 (by omega) (by omega) (by omega)) mU_0 ⟨lb rfl, lb rfl, lb rfl, lb rfl⟩ ?_
  refine al0 dX8_reach_27 ?_
  refine g_X8_7 dX8_reach_28 mU_0 ?_
  refine il1 dX8_reach_31 ?_
  refine xt_iald (a) mU_1 (by omega) rfl (by decide) dX8_reach_32 ?_
  refine xt_top (congrArg Value.int (jnr0 (c := a) (by omega))) ?_
  refine is3 dX8_reach_33 (by decide) rfl ?_
  exact lp _ _ _ _ _ m hRI0 rfl rfl
