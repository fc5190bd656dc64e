def filF (lane : Int32) (b : Nat) : Nat → Nat → (Nat → Int32) → (Nat → Int64) → Nat → Int64
  | 0, _, _, it => it
  | j + 1, k, r, it => filF lane b j (k + 1) (nx r) (vp_updL (vp_updL it (b + 2 * k) (lowV lane (nx r 0).toInt64)) (b + 2 * k + 1) (lowV lane (nx r 1).toInt64))
def cbF (it : Nat → Int64) (b : Nat) : Nat → Nat → (Nat → Int32) → Int32
  | 0, _, _ => 1
  | j + 1, k, r => if rFlag r = 0 then 0 else if it (b + 2 * k) = (nx r 0).toInt64 then (if it (b + 2 * k + 1) = (nx r 1).toInt64 then cbF it b j (k + 1) (nx r) else 0) else 0
set_option maxHeartbeats 400000 in
set_option maxRecDepth 100000 in
theorem cn_X8_film_b1 {h : ax_H} {n : Nat} {M : Nat} {un iu td aT nu ab be : Int32} {tp mv rd ms mn la : Nat → Int32} {W : Nat → Nat → Int32} {it tk : Nat → Int64} (x y lane i : Int32) (hx : ¬ (1 ≤ x ∧ x ≤ 12)) : ax_C yX8_film cX8_film 8 (some .int) 6 0 0 [.ref M, .int x, .int y, .int lane, .int i] (mU h M un iu td aT nu ab be (jn W) tp mv rd ms mn la it tk) n (ki ((-1000001)) (mU h M un iu td aT nu ab be (jn W) tp mv rd ms mn la it tk) n) := by
  refine ax_C.go RX8 "film" [some (.ref M), some (.int x), some (.int y), some (.int lane), some (.int i), none, none, none] rfl rfl pn_X8 (lb rfl) rfl (fun l G cy bs => ?_)
  refine il1 dX8_film_0 ?_
  refine xt_i2l dX8_film_1 ?_
  refine xt_lconst (1) dX8_film_2 rfl ?_
  refine k_X8_215 dX8_film_3 ?_
  refine s_X8_51 dX8_film_6 (cn_X8_inI _ (1) (12) rfl rfl) ⟨lb rfl, lb rfl, lb rfl, lb rfl⟩ ?_
  refine xt_if_eq 26 dX8_film_9 rfl (fun _ => ?_) (fun q => absurd (fl0 hx) q)
  refine k_X8_112 dX8_film_26 ?_
  exact xt_iret dX8_film_28 rfl (lb rfl) (lb rfl) ⟨rfl, rfl, rfl⟩
set_option maxHeartbeats 400000 in
set_option maxRecDepth 100000 in
theorem cn_X8_film_b2 {h : ax_H} {n : Nat} {M : Nat} {un iu td aT nu ab be : Int32} {tp mv rd ms mn la : Nat → Int32} {W : Nat → Nat → Int32} {it tk : Nat → Int64} (x y lane i : Int32) (hx : 1 ≤ x ∧ x ≤ 12) (hy : ¬ (0 ≤ y ∧ y ≤ 3)) : ax_C yX8_film cX8_film 8 (some .int) 6 0 0 [.ref M, .int x, .int y, .int lane, .int i] (mU h M un iu td aT nu ab be (jn W) tp mv rd ms mn la it tk) n (ki ((-1000001)) (mU h M un iu td aT nu ab be (jn W) tp mv rd ms mn la it tk) n) := by
  refine ax_C.go RX8 "film" [some (.ref M), some (.int x), some (.int y), some (.int lane), some (.int i), none, none, none] rfl rfl pn_X8 (lb rfl) rfl (fun l G cy bs => ?_)
  refine il1 dX8_film_0 ?_
  refine xt_i2l dX8_film_1 ?_
  refine xt_lconst (1) dX8_film_2 rfl ?_
  refine k_X8_215 dX8_film_3 ?_
  refine s_X8_51 dX8_film_6 (cn_X8_inI _ (1) (12) rfl rfl) ⟨lb rfl, lb rfl, lb rfl, lb rfl⟩ ?_
  refine xt_if_eq 26 dX8_film_9 rfl (fun q => absurd q (fl1 hx)) (fun _ => ?_)
  refine il2 dX8_film_12 ?_
  refine s_X8_203 dX8_film_13 (cn_X8_isSheet _) ⟨lb rfl, lb rfl, lb rfl, lb rfl⟩ ?_
  refine xt_if_eq 26 dX8_film_16 rfl (fun _ => ?_) (fun q => absurd (fl0 hy) q)
  refine k_X8_112 dX8_film_26 ?_
  exact xt_iret dX8_film_28 rfl (lb rfl) (lb rfl) ⟨rfl, rfl, rfl⟩
set_option maxHeartbeats 400000 in
set_option maxRecDepth 100000 in
theorem cn_X8_film_b3 {h : ax_H} {n : Nat} {M : Nat} {un iu td aT nu ab be : Int32} {tp mv rd ms mn la : Nat → Int32} {W : Nat → Nat → Int32} {it tk : Nat → Int64} (x y lane i : Int32) (hx : 1 ≤ x ∧ x ≤ 12) (hy : 0 ≤ y ∧ y ≤ 3) (hl : ¬ (0 ≤ lane ∧ lane ≤ 3)) : ax_C yX8_film cX8_film 8 (some .int) 6 0 0 [.ref M, .int x, .int y, .int lane, .int i] (mU h M un iu td aT nu ab be (jn W) tp mv rd ms mn la it tk) n (ki ((-1000001)) (mU h M un iu td aT nu ab be (jn W) tp mv rd ms mn la it tk) n) := by
  refine ax_C.go RX8 "film" [some (.ref M), some (.int x), some (.int y), some (.int lane), some (.int i), none, none, none] rfl rfl pn_X8 (lb rfl) rfl (fun l G cy bs => ?_)
  refine il1 dX8_film_0 ?_
  refine xt_i2l dX8_film_1 ?_
  refine xt_lconst (1) dX8_film_2 rfl ?_
  refine k_X8_215 dX8_film_3 ?_
  refine s_X8_51 dX8_film_6 (cn_X8_inI _ (1) (12) rfl rfl) ⟨lb rfl, lb rfl, lb rfl, lb rfl⟩ ?_
  refine xt_if_eq 26 dX8_film_9 rfl (fun q => absurd q (fl1 hx)) (fun _ => ?_)
  refine il2 dX8_film_12 ?_
  refine s_X8_203 dX8_film_13 (cn_X8_isSheet _) ⟨lb rfl, lb rfl, lb rfl, lb rfl⟩ ?_
  refine xt_if_eq 26 dX8_film_16 rfl (fun q => absurd q (fl1 hy)) (fun _ => ?_)
  refine il3 dX8_film_19 ?_
  refine s_X8_206 dX8_film_20 (cn_X8_isLane _) ⟨lb rfl, lb rfl, lb rfl, lb rfl⟩ ?_
  refine xt_if_ne 29 dX8_film_23 rfl (fun q => absurd (fl0 hl) q) (fun _ => ?_)
  refine k_X8_112 dX8_film_26 ?_
  exact xt_iret dX8_film_28 rfl (lb rfl) (lb rfl) ⟨rfl, rfl, rfl⟩
set_option maxHeartbeats 400000 in
set_option maxRecDepth 100000 in
theorem cn_X8_film_r {h : ax_H} {n : Nat} {M : Nat} {un iu td aT nu ab be : Int32} {tp mv rd ms mn la : Nat → Int32} {W : Nat → Nat → Int32} {it tk : Nat → Int64} (x : Int32) (hx : 1 ≤ x ∧ x ≤ 12) (s : Nat) (hs : s < 4) (lane i : Int32) (hl : 0 ≤ lane ∧ lane ≤ 3) (hg : ¬ agV mn la s lane i (2 * x) = 0) : ax_C yX8_film cX8_film 8 (some .int) 6 0 0 [.ref M, .int x, .int (nI s), .int lane, .int i] (mU h M un iu td aT nu ab be (jn W) tp mv rd ms mn la it tk) n (ki (agV mn la s lane i (2 * x)) (mU h M un iu td aT nu ab be (jn W) tp mv rd ms mn la it tk) n) := by
  refine ax_C.go RX8 "film" [some (.ref M), some (.int x), some (.int (nI s)), some (.int lane), some (.int i), none, none, none] rfl rfl pn_X8 (lb rfl) rfl (fun l G cy bs => ?_)
  refine il1 dX8_film_0 ?_
  refine xt_i2l dX8_film_1 ?_
  refine xt_lconst (1) dX8_film_2 rfl ?_
  refine k_X8_215 dX8_film_3 ?_
  refine s_X8_51 dX8_film_6 (cn_X8_inI _ (1) (12) rfl rfl) ⟨lb rfl, lb rfl, lb rfl, lb rfl⟩ ?_
  refine xt_if_eq 26 dX8_film_9 rfl (fun q => absurd q (fl1 hx)) (fun _ => ?_)
  refine il2 dX8_film_12 ?_
  refine s_X8_203 dX8_film_13 (cn_X8_isSheet _) ⟨lb rfl, lb rfl, lb rfl, lb rfl⟩ ?_
  refine xt_if_eq 26 dX8_film_16 rfl (fun q => absurd q (fl1 ⟨nI_pos' (by omega), nI_le (b := 3) (by omega) (by decide)⟩)) (fun _ => ?_)
  refine il3 dX8_film_19 ?_
  refine s_X8_206 dX8_film_20 (cn_X8_isLane _) ⟨lb rfl, lb rfl, lb rfl, lb rfl⟩ ?_
  refine xt_if_ne 29 dX8_film_23 rfl (fun _ => ?_) (fun q => absurd q (fl1 hl))
  refine al0 dX8_film_29 ?_
  refine il2 dX8_film_30 ?_
  refine il3 dX8_film_31 ?_
  refine il4 dX8_film_32 ?_
  refine xt_iconst (2) dX8_film_34 rfl ?_
  refine il1 dX8_film_35 ?_
  refine xt_imul dX8_film_36 ?_
  refine s_X8_209 dX8_film_37 (cn_X8_against (s) (by omega) _ _ _) mU_0 ⟨lb rfl, lb rfl, lb rfl, lb rfl⟩ ?_
  refine is5 dX8_film_40 (by decide) rfl ?_
  refine il5 dX8_film_42 ?_
  refine xt_if_eq 50 dX8_film_44 rfl (fun q => absurd q hg) (fun _ => ?_)
  refine il5 dX8_film_47 ?_
  exact xt_iret dX8_film_49 rfl (lb rfl) (lb rfl) ⟨rfl, rfl, rfl⟩
set_option maxHeartbeats 400000 in
set_option maxRecDepth 100000 in
theorem cn_X8_film {h : ax_H} {n : Nat} {M : Nat} {un iu td aT nu ab be : Int32} {tp mv rd ms mn la : Nat → Int32} {W : Nat → Nat → Int32} {it tk : Nat → Int64} (m : Nat) (hRI0 : RI (W 0) m) (N : Nat) (hN : 1 ≤ N ∧ N ≤ 12) (s : Nat) (hs : s < 4) (lane : Int32) (hl : 0 ≤ lane ∧ lane ≤ 3) (i : Nat) (hi : i + 2 * N ≤ 24) (hg : agV mn la s lane (nI i) (nI (2 * N)) = 0) : ax_C yX8_film cX8_film 8 (some .int) 6 0 0 [.ref M, .int (nI N), .int (nI s), .int lane, .int (nI i)] (mU h M un iu td aT nu ab be (jn W) tp mv rd ms mn la it tk) n (kE (nI (2 * N)) (MSt h M (un) (iu) (td) (W) (tp) (mn) (la) (filF lane (24 * s + i) N 0 (W 0) it)) n) := by
  refine ax_C.go RX8 "film" [some (.ref M), some (.int (nI N)), some (.int (nI s)), some (.int lane), some (.int (nI i)), none, none, none] rfl rfl pn_X8 (lb rfl) rfl (fun l G cy bs => ?_)
  have lp : ∀ (j k : Nat), k + j = N → ∀ (fa : Int32) (B : Option Value) (r1 mv1 : Nat → Int32) (i1 : Nat → Int64) (m1 : Nat), RI r1 m1 → filF lane (24 * s + i) j k r1 i1 = filF lane (24 * s + i) N 0 (W 0) it → ax_T l G cy bs (ax_rm 6 0 0) RX8 "film" cX8_film 8 (some .int) (kE (nI (2 * N)) (MSt h M (un) (iu) (td) (W) (tp) (mn) (la) (filF lane (24 * s + i) N 0 (W 0) it)) n) 0 0 60 [some (.ref M), some (.int (nI N)), some (.int (nI s)), some (.int lane), some (.int (nI i)), some (.int fa), some (.int (nI k)), B] [] (mU h M un iu td aT nu ab be (jn (va_up W 1 r1)) tp (mv1) rd ms mn la (i1) tk) n 0 0 := by
    intro j
    induction j with
    | zero =>
      intro k hk fa B r1 mv1 i1 m1 hRI hr
      obtain rfl : k = N := by omega
      have hr : i1 = filF lane (24 * s + i) k 0 (W 0) it := hr
      refine il6 dX8_film_60 ?_
      refine il1 dX8_film_62 ?_
      refine xt_icmp_ge 161 dX8_film_63 rfl (fun _ => ?_) (fun q => absurd (nI_le (Nat.le_refl _) (by omega)) q)
      refine xt_iconst (2) dX8_film_161 rfl ?_
      refine il1 dX8_film_162 ?_
      refine xt_imul dX8_film_163 ?_
      refine xt_eqv (nI (2 * k)) ((ne_mul (a := 2) (b := k) rfl rfl).trans (congrArg nI (by omega))) ?_
      exact xt_iret dX8_film_164 rfl (lb rfl) (lb rfl) ⟨rfl, by rw [← hr]; exact MSt_r, rfl⟩
    | succ j ih =>
      intro k hk fa B r1 mv1 i1 m1 hRI hr
      have hRI2 : ∃ m2, RI (nx r1) m2 := by
        by_cases hf : rFlag r1 = 0
        · rw [(nx_0 hf).1]; exact ⟨m1, hRI⟩
        · obtain ⟨m2, -, q, -⟩ := RI_step hRI hf; exact ⟨m2, q⟩
      obtain ⟨m2, hRI2⟩ := hRI2
      refine il6 dX8_film_60 ?_
      refine il1 dX8_film_62 ?_
      refine xt_icmp_ge 161 dX8_film_63 rfl (fun q => absurd q (nI_ge (by omega) (by omega))) (fun _ => ?_)
      refine al0 dX8_film_66 ?_
      refine xt_bipush (61) dX8_film_67 rfl ?_
      refine s_X8_175 dX8_film_69 (cn_X8_stepsI (q := 1) (by omega) hRI) mU_0 ⟨lb rfl, lb rfl, lb rfl, lb rfl⟩ ?_
      refine is7 dX8_film_72 (by decide) rfl ?_
      refine al0 dX8_film_74 ?_
      refine g_X8_20 dX8_film_75 mU_0 ?_
      refine xt_iconst (0) dX8_film_78 rfl ?_
      refine il7 dX8_film_79 ?_
      apply xj_if_eq 93 dX8_film_81 rfl
      · intro k81
        refine ⟨fun c81 => ?_, fun c81 => ?_⟩
        · refine xt_iconst (0) dX8_film_93 rfl ?_
          exact xt_it1 k81 c81
        · refine al0 dX8_film_84 ?_
          refine g_X8_20 dX8_film_85 mU_0 ?_
          refine xt_iconst (0) dX8_film_88 rfl ?_
          refine xt_iald (0) mU_3 (by omega) rfl (by decide) dX8_film_89 ?_
          refine xt_goto 94 dX8_film_90 rfl ?_
          exact xt_it2 k81 c81
      · skip
        refine xt_iast (0) mU_3 (by omega) rfl (by decide) dX8_film_94 ?_
        refine xt_heq mU_p3 ?_
        refine al0 dX8_film_95 ?_
        refine g_X8_35 dX8_film_96 mU_0 ?_
        refine xt_bipush (24) dX8_film_99 rfl ?_
        refine il2 dX8_film_101 ?_
        refine xt_imul dX8_film_102 ?_
        refine il4 dX8_film_103 ?_
        refine xt_iadd dX8_film_105 ?_
        refine xt_iconst (2) dX8_film_106 rfl ?_
        refine il6 dX8_film_107 ?_
        refine xt_imul dX8_film_109 ?_
        refine xt_iadd dX8_film_110 ?_
        refine il3 dX8_film_111 ?_
        refine al0 dX8_film_112 ?_
        refine g_X8_7 dX8_film_113 mU_0 ?_
        refine xt_bipush (61) dX8_film_116 rfl ?_
        refine xt_iald (61) mU_1 (by omega) rfl (by decide) dX8_film_118 ?_
        refine xt_top (congrArg Value.int (jnr (c := 0) (by omega) (by omega))) ?_
        refine xt_i2l dX8_film_119 ?_
        refine s_X8_217 dX8_film_120 (cn_X8_low _ _) ⟨lb rfl, lb rfl, lb rfl, lb rfl⟩ ?_
        refine xt_last ((24) * (s) + i + (2) * (k)) mU_8 (by omega) (ne_add (a := (24) * (s) + i) (b := (2) * (k)) (ne_add (a := (24) * (s)) (b := i) (ne_mul (a := 24) (b := s) rfl rfl) rfl) (ne_mul (a := 2) (b := k) rfl rfl)) (by decide) dX8_film_123 ?_
        refine xt_heq mU_p8 ?_
        refine al0 dX8_film_124 ?_
        refine g_X8_35 dX8_film_125 mU_0 ?_
        refine xt_bipush (24) dX8_film_128 rfl ?_
        refine il2 dX8_film_130 ?_
        refine xt_imul dX8_film_131 ?_
        refine il4 dX8_film_132 ?_
        refine xt_iadd dX8_film_134 ?_
        refine xt_iconst (2) dX8_film_135 rfl ?_
        refine il6 dX8_film_136 ?_
        refine xt_imul dX8_film_138 ?_
        refine xt_iadd dX8_film_139 ?_
        refine xt_iconst (1) dX8_film_140 rfl ?_
        refine xt_iadd dX8_film_141 ?_
        refine il3 dX8_film_142 ?_
        refine al0 dX8_film_143 ?_
        refine g_X8_7 dX8_film_144 mU_0 ?_
        refine xt_bipush (62) dX8_film_147 rfl ?_
        refine xt_iald (62) mU_1 (by omega) rfl (by decide) dX8_film_149 ?_
        refine xt_top (congrArg Value.int (jnr (c := 1) (by omega) (by omega))) ?_
        refine xt_i2l dX8_film_150 ?_
        refine s_X8_217 dX8_film_151 (cn_X8_low _ _) ⟨lb rfl, lb rfl, lb rfl, lb rfl⟩ ?_
        refine xt_last ((24) * (s) + i + (2) * (k) + 1) mU_8 (by omega) (ne_add (a := (24) * (s) + i + (2) * (k)) (b := 1) (ne_add (a := (24) * (s) + i) (b := (2) * (k)) (ne_add (a := (24) * (s)) (b := i) (ne_mul (a := 24) (b := s) rfl rfl) rfl) (ne_mul (a := 2) (b := k) rfl rfl)) rfl) (by decide) dX8_film_154 ?_
        refine xt_heq mU_p8 ?_
        refine inc6 (nI (k + 1)) dX8_film_155 (nI_1 _) (by decide) rfl ?_
        refine xt_goto 60 dX8_film_158 rfl ?_
        exact ih (k + 1) (by omega) _ _ _ _ _ m2 hRI2 hr
  refine il1 dX8_film_0 ?_
  refine xt_i2l dX8_film_1 ?_
  refine xt_lconst (1) dX8_film_2 rfl ?_
  refine k_X8_215 dX8_film_3 ?_
  refine s_X8_51 dX8_film_6 (cn_X8_inI _ (1) (12) rfl rfl) ⟨lb rfl, lb rfl, lb rfl, lb rfl⟩ ?_
  refine xt_if_eq 26 dX8_film_9 rfl (fun q => absurd q (fl1 ⟨nI_le (a := 1) (by omega) (by omega), nI_le (b := 12) (by omega) (by decide)⟩)) (fun _ => ?_)
  refine il2 dX8_film_12 ?_
  refine s_X8_203 dX8_film_13 (cn_X8_isSheet _) ⟨lb rfl, lb rfl, lb rfl, lb rfl⟩ ?_
  refine xt_if_eq 26 dX8_film_16 rfl (fun q => absurd q (fl1 ⟨nI_pos' (by omega), nI_le (b := 3) (by omega) (by decide)⟩)) (fun _ => ?_)
  refine il3 dX8_film_19 ?_
  refine s_X8_206 dX8_film_20 (cn_X8_isLane _) ⟨lb rfl, lb rfl, lb rfl, lb rfl⟩ ?_
  refine xt_if_ne 29 dX8_film_23 rfl (fun _ => ?_) (fun q => absurd q (fl1 hl))
  refine al0 dX8_film_29 ?_
  refine il2 dX8_film_30 ?_
  refine il3 dX8_film_31 ?_
  refine il4 dX8_film_32 ?_
  refine xt_iconst (2) dX8_film_34 rfl ?_
  refine il1 dX8_film_35 ?_
  refine xt_imul dX8_film_36 ?_
  refine xt_eqv (nI (2 * N)) ((ne_mul (a := 2) (b := N) rfl rfl).trans (congrArg nI (by omega))) ?_
  refine s_X8_209 dX8_film_37 (cn_X8_against (s) (by omega) _ _ _) mU_0 ⟨lb rfl, lb rfl, lb rfl, lb rfl⟩ ?_
  refine is5 dX8_film_40 (by decide) rfl ?_
  refine il5 dX8_film_42 ?_
  refine xt_if_eq 50 dX8_film_44 rfl (fun _ => ?_) (fun q => absurd hg q)
  refine al0 dX8_film_50 ?_
  refine xt_iconst (0) dX8_film_51 rfl ?_
  refine xt_bipush (61) dX8_film_52 rfl ?_
  refine s_X8_45 dX8_film_54 (cn_X8_copyRow 0 1 (by omega) (by omega) (by omega)) mU_0 ⟨lb rfl, lb rfl, lb rfl, lb rfl⟩ ?_
  refine xt_iconst (0) dX8_film_57 rfl ?_
  refine is6 dX8_film_58 (by decide) rfl ?_
  exact lp N 0 (by omega) _ _ _ _ _ m hRI0 rfl
theorem RI_kd {r : Nat → Int32} {m : Nat} {kd : Int32} (h : RI r m) (hn : ¬ 0 ≤ r 5) (hm1 : 1 ≤ m) (hp0 : okP kd (r 14) (r 15) (r 16)) : RI (upd r 13 kd) m := by
  obtain ⟨⟨h1, h2, h3⟩, h4⟩ := h
  have u13 : upd r 13 kd 13 = kd := by simp [upd]
  have un : ∀ j, j ≠ 13 → upd r 13 kd j = r j := fun j hj => by simp [upd, hj]
  refine ⟨⟨by rw [un 12 (by omega)]; exact h1, h2, fun k hk => ?_⟩, ?_⟩
  · rcases Nat.eq_zero_or_pos k with rfl | hk0
    · show okP (upd r 13 kd 13) (upd r 13 kd 14) (upd r 13 kd 15) (upd r 13 kd 16)
      rw [u13, un 14 (by omega), un 15 (by omega), un 16 (by omega)]
      exact hp0
    · show okP (upd r 13 kd (13 + 4 * k)) (upd r 13 kd (13 + 4 * k + 1)) (upd r 13 kd (13 + 4 * k + 2)) (upd r 13 kd (13 + 4 * k + 3))
      rw [un _ (by omega), un _ (by omega), un _ (by omega), un _ (by omega)]
      exact h3 k hk
  · rcases h4 with h4 | ⟨d, h4⟩
    · exact Or.inl (by rw [un 5 (by omega)]; exact h4)
    · exact absurd (NW_pos h4) hn
set_option maxHeartbeats 400000 in
set_option maxRecDepth 100000 in
theorem cn_X8_cameBy {h : ax_H} {n : Nat} {M : Nat} {un iu td aT nu ab be : Int32} {tp mv rd ms mn la : Nat → Int32} {W : Nat → Nat → Int32} {it tk : Nat → Int64} (m : Nat) (hRI0 : RI (W 0) m) (hn : ¬ 0 ≤ W 0 5) (hm1 : 1 ≤ m) (s i N : Nat) (hs : s < 4) (hN : 1 ≤ N ∧ N ≤ 6) (hi : i + 2 * N ≤ 24) (kd : Int32) : ax_C yX8_cameBy cX8_cameBy 7 (some .boolean) 6 0 0 [.ref M, .int (nI s), .int (nI i), .int (nI N), .int kd] (mU h M un iu td aT nu ab be (jn W) tp mv rd ms mn la it tk) n (kE ((if okP kd (W 0 14) (W 0 15) (W 0 16) then cbF it (24 * s + i) N 0 (upd (W 0) 13 kd) else 0)) (MSt h M (un) (iu) (td) (W) (tp) (mn) (la) (it)) n) := by
  refine ax_C.go RX8 "cameBy" [some (.ref M), some (.int (nI s)), some (.int (nI i)), some (.int (nI N)), some (.int kd), none, none] rfl rfl pn_X8 (lb rfl) rfl (fun l G cy bs => ?_)
  have lp : ∀ (j k : Nat), k + j = N → ∀ (r1 mv1 : Nat → Int32) (iv : Int32), (iv = 0 ∧ (if okP kd (W 0 14) (W 0 15) (W 0 16) then cbF it (24 * s + i) N 0 (upd (W 0) 13 kd) else 0) = 0) ∨ (iv = 1 ∧ (∃ m1, RI r1 m1) ∧ cbF it (24 * s + i) j k r1 = (if okP kd (W 0 14) (W 0 15) (W 0 16) then cbF it (24 * s + i) N 0 (upd (W 0) 13 kd) else 0)) → ax_T l G cy bs (ax_rm 6 0 0) RX8 "cameBy" cX8_cameBy 7 (some .boolean) (kE ((if okP kd (W 0 14) (W 0 15) (W 0 16) then cbF it (24 * s + i) N 0 (upd (W 0) 13 kd) else 0)) (MSt h M (un) (iu) (td) (W) (tp) (mn) (la) (it)) n) 0 0 47 [some (.ref M), some (.int (nI s)), some (.int (nI i)), some (.int (nI N)), some (.int kd), some (.int iv), some (.int (nI k))] [] (mU h M un iu td aT nu ab be (jn (va_up W 1 r1)) tp (mv1) rd ms mn la it tk) n 0 0 := by
    intro j
    induction j with
    | zero =>
      intro k hk r1 mv1 iv hiv
      obtain rfl : k = N := by omega
      rcases hiv with ⟨rfl, hr⟩ | ⟨rfl, ⟨m1, hRI⟩, hr⟩
      · refine il6 dX8_cameBy_47 ?_
        refine il3 dX8_cameBy_49 ?_
        refine xt_icmp_ge 138 dX8_cameBy_50 rfl (fun _ => ?_) (fun q => absurd (nI_le (Nat.le_refl _) (by omega)) q)
        refine il5 dX8_cameBy_138 ?_
        exact xt_zret dX8_cameBy_140 rfl (Or.inl rfl) (lb rfl) (lb rfl) ⟨by rw [hr], MSt_r, rfl⟩
      · refine il6 dX8_cameBy_47 ?_
        refine il3 dX8_cameBy_49 ?_
        refine xt_icmp_ge 138 dX8_cameBy_50 rfl (fun _ => ?_) (fun q => absurd (nI_le (Nat.le_refl _) (by omega)) q)
        refine il5 dX8_cameBy_138 ?_
        exact xt_zret dX8_cameBy_140 rfl (Or.inr rfl) (lb rfl) (lb rfl) ⟨by rw [← hr]; rfl, MSt_r, rfl⟩
    | succ j ih =>
      intro k hk r1 mv1 iv hiv
      rcases hiv with ⟨rfl, hr⟩ | ⟨rfl, ⟨m1, hRI⟩, hr⟩
      · refine il6 dX8_cameBy_47 ?_
        refine il3 dX8_cameBy_49 ?_
        refine xt_icmp_ge 138 dX8_cameBy_50 rfl (fun q => absurd q (nI_ge (by omega) (by omega))) (fun _ => ?_)
        refine il5 dX8_cameBy_53 ?_
        refine xt_if_eq 138 dX8_cameBy_55 rfl (fun _ => ?_) (fun q => absurd (by decide) q)
        refine il5 dX8_cameBy_138 ?_
        exact xt_zret dX8_cameBy_140 rfl (Or.inl rfl) (lb rfl) (lb rfl) ⟨by rw [hr], MSt_r, rfl⟩
      · refine il6 dX8_cameBy_47 ?_
        refine il3 dX8_cameBy_49 ?_
        refine xt_icmp_ge 138 dX8_cameBy_50 rfl (fun q => absurd q (nI_ge (by omega) (by omega))) (fun _ => ?_)
        refine il5 dX8_cameBy_53 ?_
        refine xt_if_eq 138 dX8_cameBy_55 rfl (fun q => absurd q (by decide)) (fun _ => ?_)
        refine al0 dX8_cameBy_58 ?_
        refine xt_bipush (61) dX8_cameBy_59 rfl ?_
        refine s_X8_175 dX8_cameBy_61 (cn_X8_stepsI (q := 1) (by omega) hRI) mU_0 ⟨lb rfl, lb rfl, lb rfl, lb rfl⟩ ?_
        refine xt_if_eq 129 dX8_cameBy_64 rfl (fun c64 => ?_) (fun c64 => ?_)
        · refine xt_iconst (0) dX8_cameBy_129 rfl ?_
          refine is5 dX8_cameBy_130 (by decide) rfl ?_
          refine inc6 (nI (k + 1)) dX8_cameBy_132 (nI_1 _) (by decide) rfl ?_
          refine xt_goto 47 dX8_cameBy_135 rfl ?_
          have hs : (if rFlag r1 = 0 then (0 : Int32) else if it (24 * s + i + 2 * k) = (nx r1 0).toInt64 then (if it (24 * s + i + 2 * k + 1) = (nx r1 1).toInt64 then cbF it (24 * s + i) j (k + 1) (nx r1) else 0) else 0) = (if okP kd (W 0 14) (W 0 15) (W 0 16) then cbF it (24 * s + i) N 0 (upd (W 0) 13 kd) else 0) := hr
          rw [if_pos c64] at hs
          exact ih (k + 1) (by omega) _ _ _ (Or.inl ⟨rfl, hs.symm⟩)
        · refine al0 dX8_cameBy_67 ?_
          refine g_X8_35 dX8_cameBy_68 mU_0 ?_
          refine xt_bipush (24) dX8_cameBy_71 rfl ?_
          refine il1 dX8_cameBy_73 ?_
          refine xt_imul dX8_cameBy_74 ?_
          refine il2 dX8_cameBy_75 ?_
          refine xt_iadd dX8_cameBy_76 ?_
          refine xt_iconst (2) dX8_cameBy_77 rfl ?_
          refine il6 dX8_cameBy_78 ?_
          refine xt_imul dX8_cameBy_80 ?_
          refine xt_iadd dX8_cameBy_81 ?_
          refine xt_lald ((24) * (s) + i + (2) * (k)) mU_8 (by omega) (ne_add (a := (24) * (s) + i) (b := (2) * (k)) (ne_add (a := (24) * (s)) (b := i) (ne_mul (a := 24) (b := s) rfl rfl) rfl) (ne_mul (a := 2) (b := k) rfl rfl)) (by decide) dX8_cameBy_82 ?_
          refine al0 dX8_cameBy_83 ?_
          refine g_X8_7 dX8_cameBy_84 mU_0 ?_
          refine xt_bipush (61) dX8_cameBy_87 rfl ?_
          refine xt_iald (61) mU_1 (by omega) rfl (by decide) dX8_cameBy_89 ?_
          refine xt_top (congrArg Value.int (jnr (c := 0) (by omega) (by omega))) ?_
          refine xt_i2l dX8_cameBy_90 ?_
          refine xt_lcmp dX8_cameBy_91 ?_
          refine xt_if_ne 129 dX8_cameBy_92 rfl (fun c92 => ?_) (fun c92 => ?_)
          · refine xt_iconst (0) dX8_cameBy_129 rfl ?_
            refine is5 dX8_cameBy_130 (by decide) rfl ?_
            refine inc6 (nI (k + 1)) dX8_cameBy_132 (nI_1 _) (by decide) rfl ?_
            refine xt_goto 47 dX8_cameBy_135 rfl ?_
            have hs : (if rFlag r1 = 0 then (0 : Int32) else if it (24 * s + i + 2 * k) = (nx r1 0).toInt64 then (if it (24 * s + i + 2 * k + 1) = (nx r1 1).toInt64 then cbF it (24 * s + i) j (k + 1) (nx r1) else 0) else 0) = (if okP kd (W 0 14) (W 0 15) (W 0 16) then cbF it (24 * s + i) N 0 (upd (W 0) 13 kd) else 0) := hr
            rw [if_neg c64, if_neg (fun e => c92 ((lc_eq _ _).mpr e))] at hs
            exact ih (k + 1) (by omega) _ _ _ (Or.inl ⟨rfl, hs.symm⟩)
          · refine al0 dX8_cameBy_95 ?_
            refine g_X8_35 dX8_cameBy_96 mU_0 ?_
            refine xt_bipush (24) dX8_cameBy_99 rfl ?_
            refine il1 dX8_cameBy_101 ?_
            refine xt_imul dX8_cameBy_102 ?_
            refine il2 dX8_cameBy_103 ?_
            refine xt_iadd dX8_cameBy_104 ?_
            refine xt_iconst (2) dX8_cameBy_105 rfl ?_
            refine il6 dX8_cameBy_106 ?_
            refine xt_imul dX8_cameBy_108 ?_
            refine xt_iadd dX8_cameBy_109 ?_
            refine xt_iconst (1) dX8_cameBy_110 rfl ?_
            refine xt_iadd dX8_cameBy_111 ?_
            refine xt_lald ((24) * (s) + i + (2) * (k) + 1) mU_8 (by omega) (ne_add (a := (24) * (s) + i + (2) * (k)) (b := 1) (ne_add (a := (24) * (s) + i) (b := (2) * (k)) (ne_add (a := (24) * (s)) (b := i) (ne_mul (a := 24) (b := s) rfl rfl) rfl) (ne_mul (a := 2) (b := k) rfl rfl)) rfl) (by decide) dX8_cameBy_112 ?_
            refine al0 dX8_cameBy_113 ?_
            refine g_X8_7 dX8_cameBy_114 mU_0 ?_
            refine xt_bipush (62) dX8_cameBy_117 rfl ?_
            refine xt_iald (62) mU_1 (by omega) rfl (by decide) dX8_cameBy_119 ?_
            refine xt_top (congrArg Value.int (jnr (c := 1) (by omega) (by omega))) ?_
            refine xt_i2l dX8_cameBy_120 ?_
            refine xt_lcmp dX8_cameBy_121 ?_
            refine xt_if_ne 129 dX8_cameBy_122 rfl (fun c122 => ?_) (fun c122 => ?_)
            · refine xt_iconst (0) dX8_cameBy_129 rfl ?_
              refine is5 dX8_cameBy_130 (by decide) rfl ?_
              refine inc6 (nI (k + 1)) dX8_cameBy_132 (nI_1 _) (by decide) rfl ?_
              refine xt_goto 47 dX8_cameBy_135 rfl ?_
              have hs : (if rFlag r1 = 0 then (0 : Int32) else if it (24 * s + i + 2 * k) = (nx r1 0).toInt64 then (if it (24 * s + i + 2 * k + 1) = (nx r1 1).toInt64 then cbF it (24 * s + i) j (k + 1) (nx r1) else 0) else 0) = (if okP kd (W 0 14) (W 0 15) (W 0 16) then cbF it (24 * s + i) N 0 (upd (W 0) 13 kd) else 0) := hr
              rw [if_neg c64, if_pos ((lc_eq _ _).mp c92), if_neg (fun e => c122 ((lc_eq _ _).mpr e))] at hs
              exact ih (k + 1) (by omega) _ _ _ (Or.inl ⟨rfl, hs.symm⟩)
            · refine xt_iconst (1) dX8_cameBy_125 rfl ?_
              refine xt_goto 130 dX8_cameBy_126 rfl ?_
              refine is5 dX8_cameBy_130 (by decide) rfl ?_
              refine inc6 (nI (k + 1)) dX8_cameBy_132 (nI_1 _) (by decide) rfl ?_
              refine xt_goto 47 dX8_cameBy_135 rfl ?_
              have hs : (if rFlag r1 = 0 then (0 : Int32) else if it (24 * s + i + 2 * k) = (nx r1 0).toInt64 then (if it (24 * s + i + 2 * k + 1) = (nx r1 1).toInt64 then cbF it (24 * s + i) j (k + 1) (nx r1) else 0) else 0) = (if okP kd (W 0 14) (W 0 15) (W 0 16) then cbF it (24 * s + i) N 0 (upd (W 0) 13 kd) else 0) := hr
              rw [if_neg c64, if_pos ((lc_eq _ _).mp c92), if_pos ((lc_eq _ _).mp c122)] at hs
              obtain ⟨m2, -, hRI2, -⟩ := RI_step hRI c64
              exact ih (k + 1) (by omega) _ _ _ (Or.inr ⟨rfl, ⟨m2, hRI2⟩, hs⟩)
  by_cases hp0 : okP kd (W 0 14) (W 0 15) (W 0 16)
  · refine al0 dX8_cameBy_0 ?_
    refine xt_iconst (0) dX8_cameBy_1 rfl ?_
    refine xt_bipush (61) dX8_cameBy_2 rfl ?_
    refine s_X8_45 dX8_cameBy_4 (cn_X8_copyRow 0 1 (by omega) (by omega) (by omega)) mU_0 ⟨lb rfl, lb rfl, lb rfl, lb rfl⟩ ?_
    refine al0 dX8_cameBy_7 ?_
    refine g_X8_7 dX8_cameBy_8 mU_0 ?_
    refine xt_bipush (74) dX8_cameBy_11 rfl ?_
    refine il4 dX8_cameBy_13 ?_
    refine xt_iast (74) mU_1 (by omega) rfl (by decide) dX8_cameBy_15 ?_
    refine xt_heq (mU_pr (c := 13) (by omega) (by omega)) ?_
    refine il4 dX8_cameBy_16 ?_
    refine al0 dX8_cameBy_18 ?_
    refine g_X8_7 dX8_cameBy_19 mU_0 ?_
    refine xt_bipush (14) dX8_cameBy_22 rfl ?_
    refine xt_iald (14) mU_1 (by omega) rfl (by decide) dX8_cameBy_24 ?_
    refine xt_top (congrArg Value.int (jnr0 (c := 14) (by omega))) ?_
    refine al0 dX8_cameBy_25 ?_
    refine g_X8_7 dX8_cameBy_26 mU_0 ?_
    refine xt_bipush (15) dX8_cameBy_29 rfl ?_
    refine xt_iald (15) mU_1 (by omega) rfl (by decide) dX8_cameBy_31 ?_
    refine xt_top (congrArg Value.int (jnr0 (c := 15) (by omega))) ?_
    refine al0 dX8_cameBy_32 ?_
    refine g_X8_7 dX8_cameBy_33 mU_0 ?_
    refine xt_bipush (16) dX8_cameBy_36 rfl ?_
    refine xt_iald (16) mU_1 (by omega) rfl (by decide) dX8_cameBy_38 ?_
    refine xt_top (congrArg Value.int (jnr0 (c := 16) (by omega))) ?_
    refine s_X8_154 dX8_cameBy_39 (cn_X8_isPiece _ _ _ _) ⟨lb rfl, lb rfl, lb rfl, lb rfl⟩ ?_
    refine is5 dX8_cameBy_42 (by decide) rfl ?_
    refine xt_iconst (0) dX8_cameBy_44 rfl ?_
    refine is6 dX8_cameBy_45 (by decide) rfl ?_
    exact lp N 0 (by omega) _ _ _ (Or.inr ⟨if_pos hp0, ⟨m, RI_kd hRI0 hn hm1 hp0⟩, by rw [if_pos hp0]⟩)
  · refine al0 dX8_cameBy_0 ?_
    refine xt_iconst (0) dX8_cameBy_1 rfl ?_
    refine xt_bipush (61) dX8_cameBy_2 rfl ?_
    refine s_X8_45 dX8_cameBy_4 (cn_X8_copyRow 0 1 (by omega) (by omega) (by omega)) mU_0 ⟨lb rfl, lb rfl, lb rfl, lb rfl⟩ ?_
    refine al0 dX8_cameBy_7 ?_
    refine g_X8_7 dX8_cameBy_8 mU_0 ?_
    refine xt_bipush (74) dX8_cameBy_11 rfl ?_
    refine il4 dX8_cameBy_13 ?_
    refine xt_iast (74) mU_1 (by omega) rfl (by decide) dX8_cameBy_15 ?_
    refine xt_heq (mU_pr (c := 13) (by omega) (by omega)) ?_
    refine il4 dX8_cameBy_16 ?_
    refine al0 dX8_cameBy_18 ?_
    refine g_X8_7 dX8_cameBy_19 mU_0 ?_
    refine xt_bipush (14) dX8_cameBy_22 rfl ?_
    refine xt_iald (14) mU_1 (by omega) rfl (by decide) dX8_cameBy_24 ?_
    refine xt_top (congrArg Value.int (jnr0 (c := 14) (by omega))) ?_
    refine al0 dX8_cameBy_25 ?_
    refine g_X8_7 dX8_cameBy_26 mU_0 ?_
    refine xt_bipush (15) dX8_cameBy_29 rfl ?_
    refine xt_iald (15) mU_1 (by omega) rfl (by decide) dX8_cameBy_31 ?_
    refine xt_top (congrArg Value.int (jnr0 (c := 15) (by omega))) ?_
    refine al0 dX8_cameBy_32 ?_
    refine g_X8_7 dX8_cameBy_33 mU_0 ?_
    refine xt_bipush (16) dX8_cameBy_36 rfl ?_
    refine xt_iald (16) mU_1 (by omega) rfl (by decide) dX8_cameBy_38 ?_
    refine xt_top (congrArg Value.int (jnr0 (c := 16) (by omega))) ?_
    refine s_X8_154 dX8_cameBy_39 (cn_X8_isPiece _ _ _ _) ⟨lb rfl, lb rfl, lb rfl, lb rfl⟩ ?_
    refine is5 dX8_cameBy_42 (by decide) rfl ?_
    refine xt_iconst (0) dX8_cameBy_44 rfl ?_
    refine is6 dX8_cameBy_45 (by decide) rfl ?_
    exact lp N 0 (by omega) _ _ _ (Or.inl ⟨if_neg hp0, if_neg hp0⟩)
set_option maxHeartbeats 400000 in
set_option maxRecDepth 100000 in
theorem cn_X8_came_b1 {h : ax_H} {n : Nat} {M : Nat} {un iu td aT nu ab be : Int32} {tp mv rd ms mn la : Nat → Int32} {W : Nat → Nat → Int32} {it tk : Nat → Int64} (x lane i y : Int32) (hx : ¬ (0 ≤ x ∧ x ≤ 3)) : ax_C yX8_came cX8_came 8 (some .int) 7 0 0 [.ref M, .int x, .int lane, .int i, .int y] (mU h M un iu td aT nu ab be (jn W) tp mv rd ms mn la it tk) n (ki ((-1000001)) (mU h M un iu td aT nu ab be (jn W) tp mv rd ms mn la it tk) n) := by
  refine ax_C.go RX8 "came" [some (.ref M), some (.int x), some (.int lane), some (.int i), some (.int y), none, none, none] rfl rfl pn_X8 (lb rfl) rfl (fun l G cy bs => ?_)
  refine il1 dX8_came_0 ?_
  refine s_X8_203 dX8_came_1 (cn_X8_isSheet _) ⟨lb rfl, lb rfl, lb rfl, lb rfl⟩ ?_
  refine xt_if_eq 27 dX8_came_4 rfl (fun _ => ?_) (fun q => absurd (fl0 hx) q)
  refine k_X8_112 dX8_came_27 ?_
  exact xt_iret dX8_came_29 rfl (lb rfl) (lb rfl) ⟨rfl, rfl, rfl⟩
set_option maxHeartbeats 400000 in
set_option maxRecDepth 100000 in
theorem cn_X8_came_b2 {h : ax_H} {n : Nat} {M : Nat} {un iu td aT nu ab be : Int32} {tp mv rd ms mn la : Nat → Int32} {W : Nat → Nat → Int32} {it tk : Nat → Int64} (x lane i y : Int32) (hx : 0 ≤ x ∧ x ≤ 3) (hl : ¬ (0 ≤ lane ∧ lane ≤ 3)) : ax_C yX8_came cX8_came 8 (some .int) 7 0 0 [.ref M, .int x, .int lane, .int i, .int y] (mU h M un iu td aT nu ab be (jn W) tp mv rd ms mn la it tk) n (ki ((-1000001)) (mU h M un iu td aT nu ab be (jn W) tp mv rd ms mn la it tk) n) := by
  refine ax_C.go RX8 "came" [some (.ref M), some (.int x), some (.int lane), some (.int i), some (.int y), none, none, none] rfl rfl pn_X8 (lb rfl) rfl (fun l G cy bs => ?_)
  refine il1 dX8_came_0 ?_
  refine s_X8_203 dX8_came_1 (cn_X8_isSheet _) ⟨lb rfl, lb rfl, lb rfl, lb rfl⟩ ?_
  refine xt_if_eq 27 dX8_came_4 rfl (fun q => absurd q (fl1 hx)) (fun _ => ?_)
  refine il2 dX8_came_7 ?_
  refine s_X8_206 dX8_came_8 (cn_X8_isLane _) ⟨lb rfl, lb rfl, lb rfl, lb rfl⟩ ?_
  refine xt_if_eq 27 dX8_came_11 rfl (fun _ => ?_) (fun q => absurd (fl0 hl) q)
  refine k_X8_112 dX8_came_27 ?_
  exact xt_iret dX8_came_29 rfl (lb rfl) (lb rfl) ⟨rfl, rfl, rfl⟩
set_option maxHeartbeats 400000 in
set_option maxRecDepth 100000 in
theorem cn_X8_came_b3 {h : ax_H} {n : Nat} {M : Nat} {un iu td aT nu ab be : Int32} {tp mv rd ms mn la : Nat → Int32} {W : Nat → Nat → Int32} {it tk : Nat → Int64} (x lane i y : Int32) (hx : 0 ≤ x ∧ x ≤ 3) (hl : 0 ≤ lane ∧ lane ≤ 3) (hy : ¬ (1 ≤ y ∧ y ≤ 6)) : ax_C yX8_came cX8_came 8 (some .int) 7 0 0 [.ref M, .int x, .int lane, .int i, .int y] (mU h M un iu td aT nu ab be (jn W) tp mv rd ms mn la it tk) n (ki ((-1000001)) (mU h M un iu td aT nu ab be (jn W) tp mv rd ms mn la it tk) n) := by
  refine ax_C.go RX8 "came" [some (.ref M), some (.int x), some (.int lane), some (.int i), some (.int y), none, none, none] rfl rfl pn_X8 (lb rfl) rfl (fun l G cy bs => ?_)
  refine il1 dX8_came_0 ?_
  refine s_X8_203 dX8_came_1 (cn_X8_isSheet _) ⟨lb rfl, lb rfl, lb rfl, lb rfl⟩ ?_
  refine xt_if_eq 27 dX8_came_4 rfl (fun q => absurd q (fl1 hx)) (fun _ => ?_)
  refine il2 dX8_came_7 ?_
  refine s_X8_206 dX8_came_8 (cn_X8_isLane _) ⟨lb rfl, lb rfl, lb rfl, lb rfl⟩ ?_
  refine xt_if_eq 27 dX8_came_11 rfl (fun q => absurd q (fl1 hl)) (fun _ => ?_)
  refine il4 dX8_came_14 ?_
  refine xt_i2l dX8_came_16 ?_
  refine xt_lconst (1) dX8_came_17 rfl ?_
  refine k_X8_196 dX8_came_18 ?_
  refine s_X8_51 dX8_came_21 (cn_X8_inI _ (1) (6) rfl rfl) ⟨lb rfl, lb rfl, lb rfl, lb rfl⟩ ?_
  refine xt_if_ne 30 dX8_came_24 rfl (fun q => absurd (fl0 hy) q) (fun _ => ?_)
  refine k_X8_112 dX8_came_27 ?_
  exact xt_iret dX8_came_29 rfl (lb rfl) (lb rfl) ⟨rfl, rfl, rfl⟩
set_option maxHeartbeats 400000 in
set_option maxRecDepth 100000 in
theorem cn_X8_came_r {h : ax_H} {n : Nat} {M : Nat} {un iu td aT nu ab be : Int32} {tp mv rd ms mn la : Nat → Int32} {W : Nat → Nat → Int32} {it tk : Nat → Int64} (s : Nat) (hs : s < 4) (lane : Int32) (hl : 0 ≤ lane ∧ lane ≤ 3) (i y : Int32) (hy : 1 ≤ y ∧ y ≤ 6) (hg : ¬ agV mn la s lane i (2 * y) = 0) : ax_C yX8_came cX8_came 8 (some .int) 7 0 0 [.ref M, .int (nI s), .int lane, .int i, .int y] (mU h M un iu td aT nu ab be (jn W) tp mv rd ms mn la it tk) n (ki (agV mn la s lane i (2 * y)) (mU h M un iu td aT nu ab be (jn W) tp mv rd ms mn la it tk) n) := by
  refine ax_C.go RX8 "came" [some (.ref M), some (.int (nI s)), some (.int lane), some (.int i), some (.int y), none, none, none] rfl rfl pn_X8 (lb rfl) rfl (fun l G cy bs => ?_)
  refine il1 dX8_came_0 ?_
  refine s_X8_203 dX8_came_1 (cn_X8_isSheet _) ⟨lb rfl, lb rfl, lb rfl, lb rfl⟩ ?_
  refine xt_if_eq 27 dX8_came_4 rfl (fun q => absurd q (fl1 ⟨nI_pos' (by omega), nI_le (b := 3) (by omega) (by decide)⟩)) (fun _ => ?_)
  refine il2 dX8_came_7 ?_
  refine s_X8_206 dX8_came_8 (cn_X8_isLane _) ⟨lb rfl, lb rfl, lb rfl, lb rfl⟩ ?_
  refine xt_if_eq 27 dX8_came_11 rfl (fun q => absurd q (fl1 hl)) (fun _ => ?_)
  refine il4 dX8_came_14 ?_
  refine xt_i2l dX8_came_16 ?_
  refine xt_lconst (1) dX8_came_17 rfl ?_
  refine k_X8_196 dX8_came_18 ?_
  refine s_X8_51 dX8_came_21 (cn_X8_inI _ (1) (6) rfl rfl) ⟨lb rfl, lb rfl, lb rfl, lb rfl⟩ ?_
  refine xt_if_ne 30 dX8_came_24 rfl (fun _ => ?_) (fun q => absurd q (fl1 hy))
  refine al0 dX8_came_30 ?_
  refine il1 dX8_came_31 ?_
  refine il2 dX8_came_32 ?_
  refine il3 dX8_came_33 ?_
  refine xt_iconst (2) dX8_came_34 rfl ?_
  refine il4 dX8_came_35 ?_
  refine xt_imul dX8_came_37 ?_
  refine s_X8_209 dX8_came_38 (cn_X8_against (s) (by omega) _ _ _) mU_0 ⟨lb rfl, lb rfl, lb rfl, lb rfl⟩ ?_
  refine is5 dX8_came_41 (by decide) rfl ?_
  refine il5 dX8_came_43 ?_
  refine xt_if_eq 51 dX8_came_45 rfl (fun q => absurd q hg) (fun _ => ?_)
  refine il5 dX8_came_48 ?_
  exact xt_iret dX8_came_50 rfl (lb rfl) (lb rfl) ⟨rfl, rfl, rfl⟩
set_option maxHeartbeats 400000 in
set_option maxRecDepth 100000 in
theorem cn_X8_came_n1 {h : ax_H} {n : Nat} {M : Nat} {un iu td aT nu ab be : Int32} {tp mv rd ms mn la : Nat → Int32} {W : Nat → Nat → Int32} {it tk : Nat → Int64} (s : Nat) (hs : s < 4) (lane : Int32) (hl : 0 ≤ lane ∧ lane ≤ 3) (i y : Int32) (hy : 1 ≤ y ∧ y ≤ 6) (hg : agV mn la s lane i (2 * y) = 0) (hn : 0 ≤ W 0 5) : ax_C yX8_came cX8_came 8 (some .int) 7 0 0 [.ref M, .int (nI s), .int lane, .int i, .int y] (mU h M un iu td aT nu ab be (jn W) tp mv rd ms mn la it tk) n (ki ((-1000002)) (mU h M un iu td aT nu ab be (jn W) tp mv rd ms mn la it tk) n) := by
  refine ax_C.go RX8 "came" [some (.ref M), some (.int (nI s)), some (.int lane), some (.int i), some (.int y), none, none, none] rfl rfl pn_X8 (lb rfl) rfl (fun l G cy bs => ?_)
  refine il1 dX8_came_0 ?_
  refine s_X8_203 dX8_came_1 (cn_X8_isSheet _) ⟨lb rfl, lb rfl, lb rfl, lb rfl⟩ ?_
  refine xt_if_eq 27 dX8_came_4 rfl (fun q => absurd q (fl1 ⟨nI_pos' (by omega), nI_le (b := 3) (by omega) (by decide)⟩)) (fun _ => ?_)
  refine il2 dX8_came_7 ?_
  refine s_X8_206 dX8_came_8 (cn_X8_isLane _) ⟨lb rfl, lb rfl, lb rfl, lb rfl⟩ ?_
  refine xt_if_eq 27 dX8_came_11 rfl (fun q => absurd q (fl1 hl)) (fun _ => ?_)
  refine il4 dX8_came_14 ?_
  refine xt_i2l dX8_came_16 ?_
  refine xt_lconst (1) dX8_came_17 rfl ?_
  refine k_X8_196 dX8_came_18 ?_
  refine s_X8_51 dX8_came_21 (cn_X8_inI _ (1) (6) rfl rfl) ⟨lb rfl, lb rfl, lb rfl, lb rfl⟩ ?_
  refine xt_if_ne 30 dX8_came_24 rfl (fun _ => ?_) (fun q => absurd q (fl1 hy))
  refine al0 dX8_came_30 ?_
  refine il1 dX8_came_31 ?_
  refine il2 dX8_came_32 ?_
  refine il3 dX8_came_33 ?_
  refine xt_iconst (2) dX8_came_34 rfl ?_
  refine il4 dX8_came_35 ?_
  refine xt_imul dX8_came_37 ?_
  refine s_X8_209 dX8_came_38 (cn_X8_against (s) (by omega) _ _ _) mU_0 ⟨lb rfl, lb rfl, lb rfl, lb rfl⟩ ?_
  refine is5 dX8_came_41 (by decide) rfl ?_
  refine il5 dX8_came_43 ?_
  refine xt_if_eq 51 dX8_came_45 rfl (fun _ => ?_) (fun q => absurd hg q)
  refine al0 dX8_came_51 ?_
  refine g_X8_7 dX8_came_52 mU_0 ?_
  refine xt_iconst (5) dX8_came_55 rfl ?_
  refine xt_iald (5) mU_1 (by omega) rfl (by decide) dX8_came_56 ?_
  refine xt_top (congrArg Value.int (jnw (q := 0) (c := 5) (by omega) (by omega))) ?_
  refine xt_if_ge 70 dX8_came_57 rfl (fun _ => ?_) (fun q => absurd hn q)
  refine k_X8_172 dX8_came_70 ?_
  exact xt_iret dX8_came_72 rfl (lb rfl) (lb rfl) ⟨rfl, rfl, rfl⟩
set_option maxHeartbeats 400000 in
set_option maxRecDepth 100000 in
theorem cn_X8_came_n2 {h : ax_H} {n : Nat} {M : Nat} {un iu td aT nu ab be : Int32} {tp mv rd ms mn la : Nat → Int32} {W : Nat → Nat → Int32} {it tk : Nat → Int64} (s : Nat) (hs : s < 4) (lane : Int32) (hl : 0 ≤ lane ∧ lane ≤ 3) (i y : Int32) (hy : 1 ≤ y ∧ y ≤ 6) (hg : agV mn la s lane i (2 * y) = 0) (hn : ¬ 0 ≤ W 0 5) (hm0 : W 0 12 = 0) : ax_C yX8_came cX8_came 8 (some .int) 7 0 0 [.ref M, .int (nI s), .int lane, .int i, .int y] (mU h M un iu td aT nu ab be (jn W) tp mv rd ms mn la it tk) n (ki ((-1000002)) (mU h M un iu td aT nu ab be (jn W) tp mv rd ms mn la it tk) n) := by
  refine ax_C.go RX8 "came" [some (.ref M), some (.int (nI s)), some (.int lane), some (.int i), some (.int y), none, none, none] rfl rfl pn_X8 (lb rfl) rfl (fun l G cy bs => ?_)
  refine il1 dX8_came_0 ?_
  refine s_X8_203 dX8_came_1 (cn_X8_isSheet _) ⟨lb rfl, lb rfl, lb rfl, lb rfl⟩ ?_
  refine xt_if_eq 27 dX8_came_4 rfl (fun q => absurd q (fl1 ⟨nI_pos' (by omega), nI_le (b := 3) (by omega) (by decide)⟩)) (fun _ => ?_)
  refine il2 dX8_came_7 ?_
  refine s_X8_206 dX8_came_8 (cn_X8_isLane _) ⟨lb rfl, lb rfl, lb rfl, lb rfl⟩ ?_
  refine xt_if_eq 27 dX8_came_11 rfl (fun q => absurd q (fl1 hl)) (fun _ => ?_)
  refine il4 dX8_came_14 ?_
  refine xt_i2l dX8_came_16 ?_
  refine xt_lconst (1) dX8_came_17 rfl ?_
  refine k_X8_196 dX8_came_18 ?_
  refine s_X8_51 dX8_came_21 (cn_X8_inI _ (1) (6) rfl rfl) ⟨lb rfl, lb rfl, lb rfl, lb rfl⟩ ?_
  refine xt_if_ne 30 dX8_came_24 rfl (fun _ => ?_) (fun q => absurd q (fl1 hy))
  refine al0 dX8_came_30 ?_
  refine il1 dX8_came_31 ?_
  refine il2 dX8_came_32 ?_
  refine il3 dX8_came_33 ?_
  refine xt_iconst (2) dX8_came_34 rfl ?_
  refine il4 dX8_came_35 ?_
  refine xt_imul dX8_came_37 ?_
  refine s_X8_209 dX8_came_38 (cn_X8_against (s) (by omega) _ _ _) mU_0 ⟨lb rfl, lb rfl, lb rfl, lb rfl⟩ ?_
  refine is5 dX8_came_41 (by decide) rfl ?_
  refine il5 dX8_came_43 ?_
  refine xt_if_eq 51 dX8_came_45 rfl (fun _ => ?_) (fun q => absurd hg q)
  refine al0 dX8_came_51 ?_
  refine g_X8_7 dX8_came_52 mU_0 ?_
  refine xt_iconst (5) dX8_came_55 rfl ?_
  refine xt_iald (5) mU_1 (by omega) rfl (by decide) dX8_came_56 ?_
  refine xt_top (congrArg Value.int (jnw (q := 0) (c := 5) (by omega) (by omega))) ?_
  refine xt_if_ge 70 dX8_came_57 rfl (fun q => absurd q hn) (fun _ => ?_)
  refine al0 dX8_came_60 ?_
  refine g_X8_7 dX8_came_61 mU_0 ?_
  refine xt_bipush (12) dX8_came_64 rfl ?_
  refine xt_iald (12) mU_1 (by omega) rfl (by decide) dX8_came_66 ?_
  refine xt_top (congrArg Value.int (jnw (q := 0) (c := 12) (by omega) (by omega))) ?_
  refine xt_if_ne 73 dX8_came_67 rfl (fun q => absurd hm0 q) (fun _ => ?_)
  refine k_X8_172 dX8_came_70 ?_
  exact xt_iret dX8_came_72 rfl (lb rfl) (lb rfl) ⟨rfl, rfl, rfl⟩
def cbK (r : Nat → Int32) (it : Nat → Int64) (b N : Nat) (kd : Int32) : Int32 := if okP kd (r 14) (r 15) (r 16) then cbF it b N 0 (upd r 13 kd) else 0
def cmS (r : Nat → Int32) (it : Nat → Int64) (b N : Nat) : Nat → Int32
  | 0 => 0
  | k + 1 => cmS r it b N k ||| (if cbK r it b N (nI k) = 0 then 0 else (1 : Int32) <<< (nI k &&& 31))
set_option maxHeartbeats 400000 in
set_option maxRecDepth 100000 in
theorem cn_X8_came {h : ax_H} {n : Nat} {M : Nat} {un iu td aT nu ab be : Int32} {tp mv rd ms mn la : Nat → Int32} {W : Nat → Nat → Int32} {it tk : Nat → Int64} (m : Nat) (hRI0 : RI (W 0) m) (hn : ¬ 0 ≤ W 0 5) (hm1 : 1 ≤ m) (s : Nat) (hs : s < 4) (lane : Int32) (hl : 0 ≤ lane ∧ lane ≤ 3) (i N : Nat) (hN : 1 ≤ N ∧ N ≤ 6) (hi : i + 2 * N ≤ 24) (hg : agV mn la s lane (nI i) (nI (2 * N)) = 0) : ax_C yX8_came cX8_came 8 (some .int) 7 0 0 [.ref M, .int (nI s), .int lane, .int (nI i), .int (nI N)] (mU h M un iu td aT nu ab be (jn W) tp mv rd ms mn la it tk) n (kE (cmS (W 0) it (24 * s + i) N 5) (MSt h M (un) (iu) (td) (W) (tp) (mn) (la) (it)) n) := by
  refine ax_C.go RX8 "came" [some (.ref M), some (.int (nI s)), some (.int lane), some (.int (nI i)), some (.int (nI N)), none, none, none] rfl rfl pn_X8 (lb rfl) rfl (fun l G cy bs => ?_)
  have lp : ∀ (j k : Nat), k + j = 5 → ∀ (fa aT nu ab be : Int32) (r1 mv rd ms : Nat → Int32) (tk : Nat → Int64), ax_T l G cy bs (ax_rm 7 0 0) RX8 "came" cX8_came 8 (some .int) (kE (cmS (W 0) it (24 * s + i) N 5) (MSt h M (un) (iu) (td) (W) (tp) (mn) (la) (it)) n) 0 0 79 [some (.ref M), some (.int (nI s)), some (.int lane), some (.int (nI i)), some (.int (nI N)), some (.int fa), some (.int (cmS (W 0) it (24 * s + i) N k)), some (.int (nI k))] [] (mU h M un iu td aT nu ab be (jn (va_up W 1 r1)) tp mv rd ms mn la it tk) n 0 0 := by
    intro j
    induction j with
    | zero =>
      intro k hk fa aT nu ab be r1 mv rd ms tk
      obtain rfl : k = 5 := by omega
      refine il7 dX8_came_79 ?_
      refine xt_iconst (5) dX8_came_81 rfl ?_
      refine xt_icmp_ge 117 dX8_came_82 rfl (fun _ => ?_) (fun q => absurd (by decide) q)
      refine il6 dX8_came_117 ?_
      exact xt_iret dX8_came_119 rfl (lb rfl) (lb rfl) ⟨rfl, MSt_r, rfl⟩
    | succ j ih =>
      intro k hk fa aT nu ab be r1 mv rd ms tk
      have hRIv : RI (va_up W 1 r1 0) m := by simpa [va_up] using hRI0
      refine il7 dX8_came_79 ?_
      refine xt_iconst (5) dX8_came_81 rfl ?_
      refine xt_icmp_ge 117 dX8_came_82 rfl (fun q => absurd q (nI_ge (a := k) (b := 5) (by omega) (by decide))) (fun _ => ?_)
      refine il6 dX8_came_85 ?_
      refine al0 dX8_came_87 ?_
      refine il1 dX8_came_88 ?_
      refine il3 dX8_came_89 ?_
      refine il4 dX8_came_90 ?_
      refine il7 dX8_came_92 ?_
      refine sE_X8_212 dX8_came_94 (cn_X8_cameBy (W := va_up W 1 r1) m hRIv (by simpa [va_up] using hn) hm1 s i N hs hN hi (nI k)) mU_0 ⟨lb rfl, lb rfl, lb rfl, lb rfl⟩ (fun h2 hh2 => ?_)
      obtain ⟨aT2, nu2, ab2, be2, r2, mv2, rd2, ms2, tk2, rfl⟩ := hh2
      refine xt_heq (congrArg (fun z => mU h M un iu td aT2 nu2 ab2 be2 (jn z) tp mv2 rd2 ms2 mn la it tk2) (up_up W 1 r1 r2)) ?_
      apply xj_if_eq 107 dX8_came_97 rfl
      · intro k97
        refine ⟨fun c97 => ?_, fun c97 => ?_⟩
        · refine xt_iconst (0) dX8_came_107 rfl ?_
          exact xt_it1 k97 c97
        · refine xt_iconst (1) dX8_came_100 rfl ?_
          refine il7 dX8_came_101 ?_
          refine xt_ishl dX8_came_103 ?_
          refine xt_goto 108 dX8_came_104 rfl ?_
          exact xt_it2 k97 c97
      · skip
        refine xt_ior dX8_came_108 ?_
        refine is6 dX8_came_109 (by decide) rfl ?_
        refine inc7 (nI (k + 1)) dX8_came_111 (nI_1 _) (by decide) rfl ?_
        refine xt_goto 79 dX8_came_114 rfl ?_
        exact ih (k + 1) (by omega) _ _ _ _ _ _ _ _ _ _
  refine il1 dX8_came_0 ?_
  refine s_X8_203 dX8_came_1 (cn_X8_isSheet _) ⟨lb rfl, lb rfl, lb rfl, lb rfl⟩ ?_
  refine xt_if_eq 27 dX8_came_4 rfl (fun q => absurd q (fl1 ⟨nI_pos' (by omega), nI_le (b := 3) (by omega) (by decide)⟩)) (fun _ => ?_)
  refine il2 dX8_came_7 ?_
  refine s_X8_206 dX8_came_8 (cn_X8_isLane _) ⟨lb rfl, lb rfl, lb rfl, lb rfl⟩ ?_
  refine xt_if_eq 27 dX8_came_11 rfl (fun q => absurd q (fl1 hl)) (fun _ => ?_)
  refine il4 dX8_came_14 ?_
  refine xt_i2l dX8_came_16 ?_
  refine xt_lconst (1) dX8_came_17 rfl ?_
  refine k_X8_196 dX8_came_18 ?_
  refine s_X8_51 dX8_came_21 (cn_X8_inI _ (1) (6) rfl rfl) ⟨lb rfl, lb rfl, lb rfl, lb rfl⟩ ?_
  refine xt_if_ne 30 dX8_came_24 rfl (fun _ => ?_) (fun q => absurd q (fl1 ⟨nI_le (a := 1) (by omega) (by omega), nI_le (b := 6) (by omega) (by decide)⟩))
  refine al0 dX8_came_30 ?_
  refine il1 dX8_came_31 ?_
  refine il2 dX8_came_32 ?_
  refine il3 dX8_came_33 ?_
  refine xt_iconst (2) dX8_came_34 rfl ?_
  refine il4 dX8_came_35 ?_
  refine xt_imul dX8_came_37 ?_
  refine xt_eqv (nI (2 * N)) ((ne_mul (a := 2) (b := N) rfl rfl).trans (congrArg nI (by omega))) ?_
  refine s_X8_209 dX8_came_38 (cn_X8_against (s) (by omega) _ _ _) mU_0 ⟨lb rfl, lb rfl, lb rfl, lb rfl⟩ ?_
  refine is5 dX8_came_41 (by decide) rfl ?_
  refine il5 dX8_came_43 ?_
  refine xt_if_eq 51 dX8_came_45 rfl (fun _ => ?_) (fun q => absurd hg q)
  refine al0 dX8_came_51 ?_
  refine g_X8_7 dX8_came_52 mU_0 ?_
  refine xt_iconst (5) dX8_came_55 rfl ?_
  refine xt_iald (5) mU_1 (by omega) rfl (by decide) dX8_came_56 ?_
  refine xt_top (congrArg Value.int (jnw (q := 0) (c := 5) (by omega) (by omega))) ?_
  refine xt_if_ge 70 dX8_came_57 rfl (fun q => absurd q hn) (fun _ => ?_)
  refine al0 dX8_came_60 ?_
  refine g_X8_7 dX8_came_61 mU_0 ?_
  refine xt_bipush (12) dX8_came_64 rfl ?_
  refine xt_iald (12) mU_1 (by omega) rfl (by decide) dX8_came_66 ?_
  refine xt_top (congrArg Value.int (jnw (q := 0) (c := 12) (by omega) (by omega))) ?_
  refine xt_eqv (nI (m)) hRI0.1.1 ?_
  refine xt_if_ne 73 dX8_came_67 rfl (fun _ => ?_) (fun q => absurd q (nI_ne0 (by omega) (by have := hRI0.1.2.1; omega)))
  refine xt_iconst (0) dX8_came_73 rfl ?_
  refine is6 dX8_came_74 (by decide) rfl ?_
  refine xt_iconst (0) dX8_came_76 rfl ?_
  refine is7 dX8_came_77 (by decide) rfl ?_
  refine xt_heq (congrArg (fun z => (mU h M un iu td aT nu ab be (jn z) tp mv rd ms mn la it tk)) (up_id W 1).symm) ?_
  exact lp 5 0 rfl _ _ _ _ _ _ _ _ _ _
