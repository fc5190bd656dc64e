theorem rLp_le {tp : Nat → Int32} {t : Nat} (ho : TPo tp t) : ∀ (d k a : Nat) (q : Nat → Int32), a ≤ t → (rLp tp t d k a q).2.1 ≤ t
  | 0, _, _, _, h => h
  | d + 1, k, a, q, h => by
    rcases rPc_cs ho h with ⟨a1, e1, l1⟩ | ⟨kd, x, y, z, a1, e1, l1, -⟩
    · rw [rLp_n e1]; exact l1
    · have hs := sk_le (tp := tp) l1
      by_cases h1 : t ≤ sk tp t a1
      · rw [rLp_e e1 h1]; exact hs
      · by_cases h2 : tp (sk tp t a1) = 59 ∧ k + 1 < 12
        · rw [rLp_s e1 h1 h2]; exact rLp_le ho d (k + 1) _ _ (by omega)
        · rw [rLp_f e1 h1 h2]; exact hs
theorem rPl_le {tp : Nat → Int32} {t : Nat} (ho : TPo tp t) : (rPl tp t).2.1 ≤ t := by
  have hs := sk_le (tp := tp) (t := t) (a := 0) (by omega)
  unfold rPl
  by_cases h : t ≤ sk tp t 0
  · rw [if_pos h]; exact hs
  · rw [if_neg h]; exact rLp_le ho _ _ _ _ hs
/-- how many pieces, and that each of them is one -/
theorem rLp_ok {tp : Nat → Int32} {t : Nat} (ho : TPo tp t) : ∀ (d k a : Nat) (q : Nat → Int32), k + d = 12 → a ≤ t → (∀ i, i < k → okP (q (4 * i)) (q (4 * i + 1)) (q (4 * i + 2)) (q (4 * i + 3))) → ∀ N, (rLp tp t d k a q).1 = some N → N ≤ 12 ∧ ∀ i, i < N → okP ((rLp tp t d k a q).2.2 (4 * i)) ((rLp tp t d k a q).2.2 (4 * i + 1)) ((rLp tp t d k a q).2.2 (4 * i + 2)) ((rLp tp t d k a q).2.2 (4 * i + 3))
  | 0, _, _, _, _, _, _, N, hN => nomatch hN
  | d + 1, k, a, q, hk, ha, hq, N, hN => by
    rcases rPc_cs ho ha with ⟨a1, e1, l1⟩ | ⟨kd, x, y, z, a1, e1, l1, hok⟩
    · rw [rLp_n e1] at hN; exact nomatch hN
    · have hs := sk_le (tp := tp) l1
      have hq2 : ∀ i, i < k + 1 → okP (lay q (4 * k) kd x y z (4 * i)) (lay q (4 * k) kd x y z (4 * i + 1)) (lay q (4 * k) kd x y z (4 * i + 2)) (lay q (4 * k) kd x y z (4 * i + 3)) := by
        intro i hi
        rcases (show i < k ∨ i = k by omega) with z0 | rfl
        · rw [ly_lo (by omega), ly_lo (by omega), ly_lo (by omega), ly_lo (by omega)]; exact hq i z0
        · rw [lay_c0, lay_c1, lay_c2, lay_c3]; exact hok
      by_cases h1 : t ≤ sk tp t a1
      · rw [rLp_e e1 h1] at hN ⊢
        cases hN
        exact ⟨by omega, hq2⟩
      · by_cases h2 : tp (sk tp t a1) = 59 ∧ k + 1 < 12
        · rw [rLp_s e1 h1 h2] at hN ⊢
          exact rLp_ok ho d (k + 1) _ _ (by omega) (by omega) hq2 N hN
        · rw [rLp_f e1 h1 h2] at hN; exact nomatch hN
theorem rPl_ok {tp : Nat → Int32} {t N : Nat} (ho : TPo tp t) (hN : (rPl tp t).1 = some N) : N ≤ 12 ∧ ∀ i, i < N → okP ((rPl tp t).2.2 (4 * i)) ((rPl tp t).2.2 (4 * i + 1)) ((rPl tp t).2.2 (4 * i + 2)) ((rPl tp t).2.2 (4 * i + 3)) := by
  have hs := sk_le (tp := tp) (t := t) (a := 0) (by omega)
  by_cases h : t ≤ sk tp t 0
  · have e : rPl tp t = (some 0, sk tp t 0, fun _ => 0) := by unfold rPl; rw [if_pos h]
    rw [e] at hN ⊢
    cases hN
    exact ⟨by omega, fun i hi => by omega⟩
  · have e : rPl tp t = rLp tp t 12 0 (sk tp t 0) (fun _ => 0) := by unfold rPl; rw [if_neg h]
    rw [e] at hN ⊢
    exact rLp_ok ho _ _ _ _ rfl hs (fun i hi => by omega) N hN
theorem jn_pl {W : Nat → Nat → Int32} {rr r2 : Nat → Int32} (h : ∀ c, c < 61 → rr c = r2 c) : jn (va_up W 0 rr) = jn (va_up (va_up W 0 r2) 1 (W 1)) := by
  refine jn_ext (fun q c hc => ?_)
  by_cases h1 : q = 1
  · subst h1; rw [va_up_self, va_up_ne _ _ (by decide)]
  · rw [va_up_ne _ _ h1]
    by_cases h0 : q = 0
    · subst h0; rw [va_up_self, va_up_self]; exact h c hc
    · rw [va_up_ne _ _ h0, va_up_ne _ _ h0]
set_option maxHeartbeats 400000 in
set_option maxRecDepth 100000 in
theorem cn_X8_plan_f {h : ax_H} {n : Nat} {M : Nat} {un iu  aT nu ab be : Int32} {tp mv rd ms mn la : Nat → Int32} {W : Nat → Nat → Int32} {it tk : Nat → Int64} (t : Nat) (ht : t ≤ 140) (ho : TPo tp t) (a : Nat) (q : Nat → Int32) (hres : rPl tp t = (none, a, q)) : ax_C yX8_plan cX8_plan 5 (some .int) 5 0 0 [.ref M] (mU h M un iu (nI t) aT nu ab be (jn W) tp mv rd ms mn la it tk) n (kE (-1000020 - nI a) (MSt h M (un) (iu) (nI 0) (W) (tp) (mn) (la) (it)) n) := by
  refine ax_C.go RX8 "plan" [some (.ref M), none, none, none, none] rfl rfl pn_X8 (lb rfl) rfl (fun l G cy bs => ?_)
  have ha : a ≤ t := by have := rPl_le ho; rw [hres] at this; exact this
  refine al0 dX8_plan_0 ?_
  refine xt_iconst (0) dX8_plan_1 rfl ?_
  refine p_X8_131 dX8_plan_2 mU_0 ?_
  refine xt_heq mU_p0 ?_
  refine al0 dX8_plan_5 ?_
  refine sE_X8_161 dX8_plan_6 (cn_X8_takesPlan t ht ho _ hres) mU_0 ⟨lb rfl, lb rfl, lb rfl, lb rfl⟩ ?_
  rintro _ ⟨nu1, rd1, rfl, hrd⟩
  refine xt_eqv (-1) rfl ?_
  refine is1 dX8_plan_9 (by decide) rfl ?_
  refine al0 dX8_plan_10 ?_
  refine g_X8_127 dX8_plan_11 mU_0 ?_
  refine is2 dX8_plan_14 (by decide) rfl ?_
  refine al0 dX8_plan_15 ?_
  refine xt_iconst (0) dX8_plan_16 rfl ?_
  refine p_X8_127 dX8_plan_17 mU_0 ?_
  refine xt_heq mU_p0 ?_
  refine il1 dX8_plan_20 ?_
  refine xt_if_ge 44 dX8_plan_21 rfl (fun q => absurd q (by decide)) (fun _ => ?_)
  refine k_X8_164 dX8_plan_24 ?_
  refine al0 dX8_plan_26 ?_
  refine g_X8_131 dX8_plan_27 mU_0 ?_
  refine il2 dX8_plan_30 ?_
  refine xt_icmp_ge 41 dX8_plan_31 rfl (fun c31 => ?_) (fun c31 => ?_)
  · obtain rfl : a = t := by
      rcases Nat.lt_or_ge a t with z | z
      · exact absurd c31 (nI_ge z (by omega))
      · omega
    refine il2 dX8_plan_41 ?_
    refine xt_isub dX8_plan_42 ?_
    exact xt_iret dX8_plan_43 rfl (lb rfl) (lb rfl) ⟨rfl, MSt_of, rfl⟩
  · refine al0 dX8_plan_34 ?_
    refine g_X8_131 dX8_plan_35 mU_0 ?_
    refine xt_goto 42 dX8_plan_38 rfl ?_
    refine xt_isub dX8_plan_42 ?_
    exact xt_iret dX8_plan_43 rfl (lb rfl) (lb rfl) ⟨rfl, MSt_of, rfl⟩
set_option maxHeartbeats 400000 in
set_option maxRecDepth 100000 in
theorem cn_X8_plan {h : ax_H} {n : Nat} {M : Nat} {un iu  aT nu ab be : Int32} {tp mv rd ms mn la : Nat → Int32} {W : Nat → Nat → Int32} {it tk : Nat → Int64} (t : Nat) (ht : t ≤ 140) (ho : TPo tp t) (N a : Nat) (q : Nat → Int32) (hres : rPl tp t = (some N, a, q)) : ax_C yX8_plan cX8_plan 5 (some .int) 5 0 0 [.ref M] (mU h M un iu (nI t) aT nu ab be (jn W) tp mv rd ms mn la it tk) n (kE (nI N) (MSt h M (nI 0) (iu) (nI 0) (va_up W 0 (plR (W 0) q N)) (tp) (mn) (la) (it)) n) := by
  refine ax_C.go RX8 "plan" [some (.ref M), none, none, none, none] rfl rfl pn_X8 (lb rfl) rfl (fun l G cy bs => ?_)
  obtain ⟨hN12, -⟩ := rPl_ok ho (N := N) (by rw [hres])
  have l2 : ∀ (nu1 : Int32) (rd1 : Nat → Int32), (∀ j, j < 4 * N → rd1 j = q j) → ∀ (d k : Nat) (r1 : Nat → Int32), k + d = 4 * N → (∀ c, c < 61 → r1 c = (if c = 4 then W 0 4 else if c = 5 then -1 else if c = 12 then nI N else if 13 ≤ c ∧ c < 13 + k then q (c - 13) else 0)) → ax_T l G cy bs (ax_rm 5 0 0) RX8 "plan" cX8_plan 5 (some .int) (kE (nI N) (MSt h M (nI 0) (iu) (nI 0) (va_up W 0 (plR (W 0) q N)) (tp) (mn) (la) (it)) n) 0 0 100 [some (.ref M), some (.int (nI N)), some (.int (nI t)), some (.int (W 0 4)), some (.int (nI k))] [] (mU h M un iu (nI 0) (nI a) (nu1) ab be (jn (va_up W 0 r1)) tp mv (rd1) ms mn la it tk) n 0 0 := by
    intro nu1 rd1 hrd d
    induction d with
    | zero =>
      intro k r1 hk hr
      have hp := fun c (hc : c < 61) => ((hr c hc).trans (by rw [show k = 4 * N by omega])).trans (plR_at (W 0) q N c).symm
      refine il4 dX8_plan_100 ?_
      refine xt_iconst (4) dX8_plan_102 rfl ?_
      refine il1 dX8_plan_103 ?_
      refine xt_imul dX8_plan_104 ?_
      refine xt_eqv (nI (4 * N)) ((ne_mul (a := 4) (b := N) rfl rfl).trans (congrArg nI (by omega))) ?_
      refine xt_icmp_ge 131 dX8_plan_105 rfl (fun _ => ?_) (fun q => absurd (nI_le (by omega) (by omega)) q)
      refine al0 dX8_plan_131 ?_
      refine xt_iconst (0) dX8_plan_132 rfl ?_
      refine p_X8_42 dX8_plan_133 mU_0 ?_
      refine xt_heq mU_p0 ?_
      refine il1 dX8_plan_136 ?_
      exact xt_iret dX8_plan_137 rfl (lb rfl) (lb rfl) ⟨rfl, ⟨_, _, _, _, W 1, _, _, _, _, by rw [jn_pl hp]; rfl⟩, rfl⟩
    | succ d ih =>
      intro k r1 hk hr
      refine il4 dX8_plan_100 ?_
      refine xt_iconst (4) dX8_plan_102 rfl ?_
      refine il1 dX8_plan_103 ?_
      refine xt_imul dX8_plan_104 ?_
      refine xt_eqv (nI (4 * N)) ((ne_mul (a := 4) (b := N) rfl rfl).trans (congrArg nI (by omega))) ?_
      refine xt_icmp_ge 131 dX8_plan_105 rfl (fun q => absurd q (nI_ge (by omega) (by omega))) (fun _ => ?_)
      refine al0 dX8_plan_108 ?_
      refine g_X8_7 dX8_plan_109 mU_0 ?_
      refine xt_bipush (13) dX8_plan_112 rfl ?_
      refine il4 dX8_plan_114 ?_
      refine xt_iadd dX8_plan_116 ?_
      refine al0 dX8_plan_117 ?_
      refine g_X8_23 dX8_plan_118 mU_0 ?_
      refine il4 dX8_plan_121 ?_
      refine xt_iald k mU_4 (by omega) rfl (by decide) dX8_plan_123 ?_
      refine xt_eqv (q k) (hrd k (by omega)) ?_
      refine xt_iast (13 + k) mU_1 (by omega) (ne_add (a := 13) (b := k) rfl rfl) (by decide) dX8_plan_124 ?_
      refine xt_heq (mU_pr (c := 13 + k) (by omega) (by omega)) ?_
      refine inc4 (nI (k + 1)) dX8_plan_125 (nI_1 _) (by decide) rfl ?_
      refine xt_goto 100 dX8_plan_128 rfl ?_
      refine ih (k + 1) _ (by omega) (fun c hc => ?_)
      by_cases h1 : c = 13 + k
      · subst h1
        rw [upd_s, if_neg (by omega), if_neg (by omega), if_neg (by omega), if_pos ⟨by omega, by omega⟩, show 13 + k - 13 = k by omega]
      · rw [upd_o h1, hr c hc]
        by_cases h4 : c = 4
        · rw [if_pos h4, if_pos h4]
        · rw [if_neg h4, if_neg h4]
          by_cases h5 : c = 5
          · rw [if_pos h5, if_pos h5]
          · rw [if_neg h5, if_neg h5]
            by_cases h12 : c = 12
            · rw [if_pos h12, if_pos h12]
            · rw [if_neg h12, if_neg h12]
              by_cases h13 : 13 ≤ c ∧ c < 13 + k
              · rw [if_pos h13, if_pos ⟨h13.1, by omega⟩]
              · rw [if_neg h13, if_neg (by omega)]
  have l1 : ∀ (nu1 : Int32) (rd1 : Nat → Int32), (∀ j, j < 4 * N → rd1 j = q j) → ∀ (d k : Nat) (r1 : Nat → Int32), k + d = 61 → (∀ c, c < k → r1 c = 0) → ax_T l G cy bs (ax_rm 5 0 0) RX8 "plan" cX8_plan 5 (some .int) (kE (nI N) (MSt h M (nI 0) (iu) (nI 0) (va_up W 0 (plR (W 0) q N)) (tp) (mn) (la) (it)) n) 0 0 54 [some (.ref M), some (.int (nI N)), some (.int (nI t)), some (.int (W 0 4)), some (.int (nI k))] [] (mU h M un iu (nI 0) (nI a) (nu1) ab be (jn (va_up W 0 r1)) tp mv (rd1) ms mn la it tk) n 0 0 := by
    intro nu1 rd1 hrd d
    induction d with
    | zero =>
      intro k r1 hk hr
      obtain rfl : k = 61 := by omega
      refine il4 dX8_plan_54 ?_
      refine xt_bipush (61) dX8_plan_56 rfl ?_
      refine xt_icmp_ge 75 dX8_plan_58 rfl (fun _ => ?_) (fun q => absurd (nI_le (a := 61) (by omega) (by omega)) q)
      refine al0 dX8_plan_75 ?_
      refine g_X8_7 dX8_plan_76 mU_0 ?_
      refine xt_iconst (4) dX8_plan_79 rfl ?_
      refine il3 dX8_plan_80 ?_
      refine xt_iast (4) mU_1 (by omega) rfl (by decide) dX8_plan_81 ?_
      refine xt_heq (mU_pr (c := 4) (by omega) (by omega)) ?_
      refine al0 dX8_plan_82 ?_
      refine g_X8_7 dX8_plan_83 mU_0 ?_
      refine xt_iconst (5) dX8_plan_86 rfl ?_
      refine xt_iconst (-1) dX8_plan_87 rfl ?_
      refine xt_iast (5) mU_1 (by omega) rfl (by decide) dX8_plan_88 ?_
      refine xt_heq (mU_pr (c := 5) (by omega) (by omega)) ?_
      refine al0 dX8_plan_89 ?_
      refine g_X8_7 dX8_plan_90 mU_0 ?_
      refine xt_bipush (12) dX8_plan_93 rfl ?_
      refine il1 dX8_plan_95 ?_
      refine xt_iast (12) mU_1 (by omega) rfl (by decide) dX8_plan_96 ?_
      refine xt_heq (mU_pr (c := 12) (by omega) (by omega)) ?_
      refine xt_iconst (0) dX8_plan_97 rfl ?_
      refine is4 dX8_plan_98 (by decide) rfl ?_
      refine l2 nu1 rd1 hrd (4 * N) 0 _ (by omega) (fun c hc => ?_)
      by_cases h12 : c = 12
      · subst h12
        rw [upd_s, if_neg (by decide), if_neg (by decide), if_pos rfl]
      · rw [upd_o h12, if_neg h12]
        by_cases h5 : c = 5
        · subst h5
          rw [upd_s, if_neg (by decide), if_pos rfl]
        · rw [upd_o h5, if_neg h5]
          by_cases h4 : c = 4
          · subst h4
            rw [upd_s, if_pos rfl]
          · rw [upd_o h4, if_neg h4, if_neg (by omega)]
            exact hr c hc
    | succ d ih =>
      intro k r1 hk hr
      refine il4 dX8_plan_54 ?_
      refine xt_bipush (61) dX8_plan_56 rfl ?_
      refine xt_icmp_ge 75 dX8_plan_58 rfl (fun q => absurd q (nI_ge (b := 61) (by omega) (by decide))) (fun _ => ?_)
      refine al0 dX8_plan_61 ?_
      refine g_X8_7 dX8_plan_62 mU_0 ?_
      refine il4 dX8_plan_65 ?_
      refine xt_iconst (0) dX8_plan_67 rfl ?_
      refine xt_iast (k) mU_1 (by omega) rfl (by decide) dX8_plan_68 ?_
      refine xt_heq (mU_pr (c := k) (by omega) (by omega)) ?_
      refine inc4 (nI (k + 1)) dX8_plan_69 (nI_1 _) (by decide) rfl ?_
      refine xt_goto 54 dX8_plan_72 rfl ?_
      refine ih (k + 1) _ (by omega) (fun c hc => ?_)
      by_cases h1 : c = k
      · subst h1; exact upd_s
      · rw [upd_o h1]; exact hr c (by omega)
  refine al0 dX8_plan_0 ?_
  refine xt_iconst (0) dX8_plan_1 rfl ?_
  refine p_X8_131 dX8_plan_2 mU_0 ?_
  refine xt_heq mU_p0 ?_
  refine al0 dX8_plan_5 ?_
  refine sE_X8_161 dX8_plan_6 (cn_X8_takesPlan t ht ho _ hres) mU_0 ⟨lb rfl, lb rfl, lb rfl, lb rfl⟩ ?_
  rintro _ ⟨nu1, rd1, rfl, hrd⟩
  refine xt_eqv (nI N) rfl ?_
  refine is1 dX8_plan_9 (by decide) rfl ?_
  refine al0 dX8_plan_10 ?_
  refine g_X8_127 dX8_plan_11 mU_0 ?_
  refine is2 dX8_plan_14 (by decide) rfl ?_
  refine al0 dX8_plan_15 ?_
  refine xt_iconst (0) dX8_plan_16 rfl ?_
  refine p_X8_127 dX8_plan_17 mU_0 ?_
  refine xt_heq mU_p0 ?_
  refine il1 dX8_plan_20 ?_
  refine xt_if_ge 44 dX8_plan_21 rfl (fun _ => ?_) (fun q => absurd (nI_pos' (by omega)) q)
  refine al0 dX8_plan_44 ?_
  refine g_X8_7 dX8_plan_45 mU_0 ?_
  refine xt_iconst (4) dX8_plan_48 rfl ?_
  refine xt_heq (congrArg (fun z => (mU h M un iu (nI 0) (nI a) (nu1) ab be (jn z) tp mv (rd1) ms mn la it tk)) (up_id W 0).symm) ?_
  refine xt_iald 4 mU_1 (by omega) rfl (by decide) dX8_plan_49 ?_
  refine xt_top (congrArg Value.int (jnr (c := 4) (by omega) (by omega))) ?_
  refine is3 dX8_plan_50 (by decide) rfl ?_
  refine xt_iconst (0) dX8_plan_51 rfl ?_
  refine is4 dX8_plan_52 (by decide) rfl ?_
  exact l1 nu1 rd1 (hrd N rfl) 61 0 _ (by omega) (fun c hc => by omega)
