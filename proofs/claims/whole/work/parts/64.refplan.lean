theorem nI_lt_of {a b : Nat} (h : ¬ nI b ≤ nI a) (ha : a < 2 ^ 31) : a < b := by
  rcases Nat.lt_or_ge a b with z | z
  · exact z
  · exact absurd (nI_le z ha) h
set_option maxHeartbeats 400000 in
set_option maxRecDepth 100000 in
theorem cn_X8_here {h : ax_H} {n : Nat} {M : Nat} {un iu   nu ab be : Int32} {w tp mv rd ms mn la : Nat → Int32} {it tk : Nat → Int64} (t : Nat) (ht : t ≤ 140) (a : Nat) (ha : a ≤ t) : ax_C yX8_here cX8_here 1 (some .int) 0 0 0 [.ref M] (mU h M un iu (nI t) (nI (a)) nu ab be w tp mv rd ms mn la it tk) n (ki (hV tp t a) (mU h M un iu (nI t) (nI (sk tp t a)) nu ab be w tp mv rd ms mn la it tk) n) := by
  refine ax_C.go RX8 "here" [some (.ref M)] rfl rfl pn_X8 (lb rfl) rfl (fun l G cy bs => ?_)
  have lp : ∀ (d c : Nat), c + d = t → sk tp t a = sk tp t c → ax_T l G cy bs (ax_rm 0 0 0) RX8 "here" cX8_here 1 (some .int) (ki (hV tp t a) (mU h M un iu (nI t) (nI (sk tp t a)) nu ab be w tp mv rd ms mn la it tk) n) 0 0 0 [some (.ref M)] [] (mU h M un iu (nI t) (nI (c)) nu ab be w tp mv rd ms mn la it tk) n 0 0 := by
    intro d
    induction d with
    | zero =>
      intro c hc hs
      obtain rfl : c = t := by omega
      rw [sk_e (Nat.le_refl _)] at hs
      have e2 : hV tp c a = -1 := by unfold hV; rw [hs, if_pos (Nat.le_refl _)]
      refine al0 dX8_here_0 ?_
      refine g_X8_131 dX8_here_1 mU_0 ?_
      refine al0 dX8_here_4 ?_
      refine g_X8_127 dX8_here_5 mU_0 ?_
      refine xt_icmp_ge 38 dX8_here_8 rfl (fun _ => ?_) (fun q => absurd (nI_le (by omega) (by omega)) q)
      refine al0 dX8_here_38 ?_
      refine g_X8_131 dX8_here_39 mU_0 ?_
      refine al0 dX8_here_42 ?_
      refine g_X8_127 dX8_here_43 mU_0 ?_
      refine xt_icmp_ge 61 dX8_here_46 rfl (fun _ => ?_) (fun q => absurd (nI_le (by omega) (by omega)) q)
      refine xt_iconst (-1) dX8_here_61 rfl ?_
      exact xt_iret dX8_here_62 rfl (lb rfl) (lb rfl) ⟨by rw [e2], by rw [hs], rfl⟩
    | succ d ih =>
      intro c hc hs
      refine al0 dX8_here_0 ?_
      refine g_X8_131 dX8_here_1 mU_0 ?_
      refine al0 dX8_here_4 ?_
      refine g_X8_127 dX8_here_5 mU_0 ?_
      refine xt_icmp_ge 38 dX8_here_8 rfl (fun q => absurd q (nI_ge (by omega) (by omega))) (fun _ => ?_)
      refine al0 dX8_here_11 ?_
      refine g_X8_17 dX8_here_12 mU_0 ?_
      refine al0 dX8_here_15 ?_
      refine g_X8_131 dX8_here_16 mU_0 ?_
      refine xt_iald (c) mU_2 (by omega) rfl (by decide) dX8_here_19 ?_
      refine xt_bipush (32) dX8_here_20 rfl ?_
      refine xt_icmp_ne 38 dX8_here_22 rfl (fun c22 => ?_) (fun c22 => ?_)
      · rw [sk_n c22] at hs
        have e2 : hV tp t a = tp c := by unfold hV; rw [hs, if_neg (by omega)]
        refine al0 dX8_here_38 ?_
        refine g_X8_131 dX8_here_39 mU_0 ?_
        refine al0 dX8_here_42 ?_
        refine g_X8_127 dX8_here_43 mU_0 ?_
        refine xt_icmp_ge 61 dX8_here_46 rfl (fun q => absurd q (nI_ge (by omega) (by omega))) (fun _ => ?_)
        refine al0 dX8_here_49 ?_
        refine g_X8_17 dX8_here_50 mU_0 ?_
        refine al0 dX8_here_53 ?_
        refine g_X8_131 dX8_here_54 mU_0 ?_
        refine xt_iald (c) mU_2 (by omega) rfl (by decide) dX8_here_57 ?_
        refine xt_goto 62 dX8_here_58 rfl ?_
        exact xt_iret dX8_here_62 rfl (lb rfl) (lb rfl) ⟨by rw [e2], by rw [hs], rfl⟩
      · have hs2 := hs.trans (sk_s (by omega) c22)
        refine al0 dX8_here_25 ?_
        refine xt_dup dX8_here_26 rfl ?_
        refine g_X8_131 dX8_here_27 mU_0 ?_
        refine xt_iconst (1) dX8_here_30 rfl ?_
        refine xt_iadd dX8_here_31 ?_
        refine xt_eqv (nI (c + 1)) (ne_add (a := c) (b := 1) rfl rfl) ?_
        refine p_X8_131 dX8_here_32 mU_0 ?_
        refine xt_heq mU_p0 ?_
        refine xt_goto 0 dX8_here_35 rfl ?_
        exact ih (c + 1) (by omega) hs2
  exact lp (t - a) a (by omega) rfl
set_option maxHeartbeats 400000 in
set_option maxRecDepth 100000 in
theorem cn_X8_takesNumber {h : ax_H} {n : Nat} {M : Nat} {un iu   nu ab be : Int32} {w tp mv rd ms mn la : Nat → Int32} {it tk : Nat → Int64} (t : Nat) (ht : t ≤ 140) (a : Nat) (ha : a ≤ t) (res : Option Int32 × Nat) (hres : rNum tp t a = res) : ax_C yX8_takesNumber cX8_takesNumber 3 (some .boolean) 2 0 0 [.ref M] (mU h M un iu (nI t) (nI (a)) nu ab be w tp mv rd ms mn la it tk) n (kE (if res.1.isSome then 1 else 0) (fun h2 => ∃ nu2, h2 = (mU h M un iu (nI t) (nI (res.2)) (nu2) ab be w tp mv rd ms mn la it tk) ∧ ∀ v, res.1 = some v → nu2 = v) n) := by
  refine ax_C.go RX8 "takesNumber" [some (.ref M), none, none] rfl rfl pn_X8 (lb rfl) rfl (fun l G cy bs => ?_)
  have go : ∀ (le : Int32) (b : Nat), b ≤ t → rN2 tp t le b = res → ax_T l G cy bs (ax_rm 2 0 0) RX8 "takesNumber" cX8_takesNumber 3 (some .boolean) (kE (if res.1.isSome then 1 else 0) (fun h2 => ∃ nu2, h2 = (mU h M un iu (nI t) (nI (res.2)) (nu2) ab be w tp mv rd ms mn la it tk) ∧ ∀ v, res.1 = some v → nu2 = v) n) 0 0 29 [some (.ref M), some (.int le), none] [] (mU h M un iu (nI t) (nI (b)) nu ab be w tp mv rd ms mn la it tk) n 0 0 := by
    intro le b hb hres
    have hs := sk_le (tp := tp) hb
    refine al0 dX8_takesNumber_29 ?_
    refine s_X8_138 dX8_takesNumber_30 (cn_X8_here t ht (b) (by omega)) mU_0 ⟨lb rfl, lb rfl, lb rfl, lb rfl⟩ ?_
    refine s_X8_141 dX8_takesNumber_33 (cn_X8_isDigit _) ⟨lb rfl, lb rfl, lb rfl, lb rfl⟩ ?_
    refine xt_if_ne 41 dX8_takesNumber_36 rfl (fun c36 => ?_) (fun c36 => ?_)
    · have hd0 : dgA tp t (sk tp t b) := hV_dg.mp (of_fl1 c36)
      have hl0 := hd0.1
      refine xt_iconst (0) dX8_takesNumber_41 rfl ?_
      refine is2 dX8_takesNumber_42 (by decide) rfl ?_
      refine al0 dX8_takesNumber_43 ?_
      refine xt_iconst (0) dX8_takesNumber_44 rfl ?_
      refine p_X8_144 dX8_takesNumber_45 mU_0 ?_
      refine xt_heq mU_p0 ?_
      refine al0 dX8_takesNumber_48 ?_
      refine g_X8_131 dX8_takesNumber_49 mU_0 ?_
      refine al0 dX8_takesNumber_52 ?_
      refine g_X8_127 dX8_takesNumber_53 mU_0 ?_
      refine xt_icmp_ge 121 dX8_takesNumber_56 rfl (fun q => absurd q (nI_ge (by omega) (by omega))) (fun _ => ?_)
      refine al0 dX8_takesNumber_59 ?_
      refine g_X8_17 dX8_takesNumber_60 mU_0 ?_
      refine al0 dX8_takesNumber_63 ?_
      refine g_X8_131 dX8_takesNumber_64 mU_0 ?_
      refine xt_iald (sk tp t (b)) mU_2 (by omega) rfl (by decide) dX8_takesNumber_67 ?_
      refine s_X8_141 dX8_takesNumber_68 (cn_X8_isDigit _) ⟨lb rfl, lb rfl, lb rfl, lb rfl⟩ ?_
      refine xt_if_eq 121 dX8_takesNumber_71 rfl (fun q => absurd q (fl1 hd0.2)) (fun _ => ?_)
      refine il2 dX8_takesNumber_74 ?_
      refine xt_iconst (2) dX8_takesNumber_75 rfl ?_
      refine xt_icmp_ne 81 dX8_takesNumber_76 rfl (fun _ => ?_) (fun q => absurd q (by decide))
      refine al0 dX8_takesNumber_81 ?_
      refine xt_bipush (10) dX8_takesNumber_82 rfl ?_
      refine al0 dX8_takesNumber_84 ?_
      refine g_X8_144 dX8_takesNumber_85 mU_0 ?_
      refine xt_imul dX8_takesNumber_88 ?_
      refine al0 dX8_takesNumber_89 ?_
      refine g_X8_17 dX8_takesNumber_90 mU_0 ?_
      refine al0 dX8_takesNumber_93 ?_
      refine g_X8_131 dX8_takesNumber_94 mU_0 ?_
      refine xt_iald (sk tp t (b)) mU_2 (by omega) rfl (by decide) dX8_takesNumber_97 ?_
      refine xt_iadd dX8_takesNumber_98 ?_
      refine xt_bipush (48) dX8_takesNumber_99 rfl ?_
      refine xt_isub dX8_takesNumber_101 ?_
      refine p_X8_144 dX8_takesNumber_102 mU_0 ?_
      refine xt_heq mU_p0 ?_
      refine inc2 (1) dX8_takesNumber_105 rfl (by decide) rfl ?_
      refine al0 dX8_takesNumber_108 ?_
      refine xt_dup dX8_takesNumber_109 rfl ?_
      refine g_X8_131 dX8_takesNumber_110 mU_0 ?_
      refine xt_iconst (1) dX8_takesNumber_113 rfl ?_
      refine xt_iadd dX8_takesNumber_114 ?_
      refine xt_eqv (nI (sk tp t b + 1)) ((ne_add (a := sk tp t (b)) (b := 1) rfl rfl).trans (congrArg nI (by omega))) ?_
      refine p_X8_131 dX8_takesNumber_115 mU_0 ?_
      refine xt_heq mU_p0 ?_
      refine xt_goto 48 dX8_takesNumber_118 rfl ?_
      refine al0 dX8_takesNumber_48 ?_
      refine g_X8_131 dX8_takesNumber_49 mU_0 ?_
      refine al0 dX8_takesNumber_52 ?_
      refine g_X8_127 dX8_takesNumber_53 mU_0 ?_
      refine xt_icmp_ge 121 dX8_takesNumber_56 rfl (fun c56 => ?_) (fun c56 => ?_)
      · have hd1 : ¬ dgA tp t (sk tp t b + 1) := fun q => absurd c56 (nI_ge (by have := q.1; omega) (by omega))
        obtain rfl := hres.symm.trans (rN2_1 hd0 hd1)
        refine al0 dX8_takesNumber_121 ?_
        refine il1 dX8_takesNumber_122 ?_
        apply xj_if_eq 134 dX8_takesNumber_123 rfl
        · intro k123
          refine ⟨fun c123 => ?_, fun c123 => ?_⟩
          · refine al0 dX8_takesNumber_134 ?_
            refine g_X8_144 dX8_takesNumber_135 mU_0 ?_
            exact xt_it1 k123 c123
          · refine al0 dX8_takesNumber_126 ?_
            refine g_X8_144 dX8_takesNumber_127 mU_0 ?_
            refine xt_ineg dX8_takesNumber_130 ?_
            refine xt_goto 138 dX8_takesNumber_131 rfl ?_
            exact xt_it2 k123 c123
        · skip
          refine p_X8_144 dX8_takesNumber_138 mU_0 ?_
          refine xt_heq mU_p0 ?_
          refine xt_iconst (1) dX8_takesNumber_141 rfl ?_
          exact xt_zret dX8_takesNumber_142 rfl (Or.inr rfl) (lb rfl) (lb rfl) ⟨rfl, ⟨_, rfl, fun v hv => by cases hv; rfl⟩, rfl⟩
      · have hl1 : sk tp t b + 1 < t := nI_lt_of c56 (by omega)
        refine al0 dX8_takesNumber_59 ?_
        refine g_X8_17 dX8_takesNumber_60 mU_0 ?_
        refine al0 dX8_takesNumber_63 ?_
        refine g_X8_131 dX8_takesNumber_64 mU_0 ?_
        refine xt_iald (sk tp t b + 1) mU_2 (by omega) rfl (by decide) dX8_takesNumber_67 ?_
        refine s_X8_141 dX8_takesNumber_68 (cn_X8_isDigit _) ⟨lb rfl, lb rfl, lb rfl, lb rfl⟩ ?_
        refine xt_if_eq 121 dX8_takesNumber_71 rfl (fun c71 => ?_) (fun c71 => ?_)
        · have hd1 : ¬ dgA tp t (sk tp t b + 1) := fun q => of_fl0 c71 q.2
          obtain rfl := hres.symm.trans (rN2_1 hd0 hd1)
          refine al0 dX8_takesNumber_121 ?_
          refine il1 dX8_takesNumber_122 ?_
          apply xj_if_eq 134 dX8_takesNumber_123 rfl
          · intro k123
            refine ⟨fun c123 => ?_, fun c123 => ?_⟩
            · refine al0 dX8_takesNumber_134 ?_
              refine g_X8_144 dX8_takesNumber_135 mU_0 ?_
              exact xt_it1 k123 c123
            · refine al0 dX8_takesNumber_126 ?_
              refine g_X8_144 dX8_takesNumber_127 mU_0 ?_
              refine xt_ineg dX8_takesNumber_130 ?_
              refine xt_goto 138 dX8_takesNumber_131 rfl ?_
              exact xt_it2 k123 c123
          · skip
            refine p_X8_144 dX8_takesNumber_138 mU_0 ?_
            refine xt_heq mU_p0 ?_
            refine xt_iconst (1) dX8_takesNumber_141 rfl ?_
            exact xt_zret dX8_takesNumber_142 rfl (Or.inr rfl) (lb rfl) (lb rfl) ⟨rfl, ⟨_, rfl, fun v hv => by cases hv; rfl⟩, rfl⟩
        · have hd1 : dgA tp t (sk tp t b + 1) := ⟨hl1, of_fl1 c71⟩
          refine il2 dX8_takesNumber_74 ?_
          refine xt_iconst (2) dX8_takesNumber_75 rfl ?_
          refine xt_icmp_ne 81 dX8_takesNumber_76 rfl (fun _ => ?_) (fun q => absurd q (by decide))
          refine al0 dX8_takesNumber_81 ?_
          refine xt_bipush (10) dX8_takesNumber_82 rfl ?_
          refine al0 dX8_takesNumber_84 ?_
          refine g_X8_144 dX8_takesNumber_85 mU_0 ?_
          refine xt_imul dX8_takesNumber_88 ?_
          refine al0 dX8_takesNumber_89 ?_
          refine g_X8_17 dX8_takesNumber_90 mU_0 ?_
          refine al0 dX8_takesNumber_93 ?_
          refine g_X8_131 dX8_takesNumber_94 mU_0 ?_
          refine xt_iald (sk tp t b + 1) mU_2 (by omega) rfl (by decide) dX8_takesNumber_97 ?_
          refine xt_iadd dX8_takesNumber_98 ?_
          refine xt_bipush (48) dX8_takesNumber_99 rfl ?_
          refine xt_isub dX8_takesNumber_101 ?_
          refine p_X8_144 dX8_takesNumber_102 mU_0 ?_
          refine xt_heq mU_p0 ?_
          refine inc2 (2) dX8_takesNumber_105 rfl (by decide) rfl ?_
          refine al0 dX8_takesNumber_108 ?_
          refine xt_dup dX8_takesNumber_109 rfl ?_
          refine g_X8_131 dX8_takesNumber_110 mU_0 ?_
          refine xt_iconst (1) dX8_takesNumber_113 rfl ?_
          refine xt_iadd dX8_takesNumber_114 ?_
          refine xt_eqv (nI (sk tp t b + 2)) ((ne_add (a := sk tp t b + 1) (b := 1) rfl rfl).trans (congrArg nI (by omega))) ?_
          refine p_X8_131 dX8_takesNumber_115 mU_0 ?_
          refine xt_heq mU_p0 ?_
          refine xt_goto 48 dX8_takesNumber_118 rfl ?_
          refine al0 dX8_takesNumber_48 ?_
          refine g_X8_131 dX8_takesNumber_49 mU_0 ?_
          refine al0 dX8_takesNumber_52 ?_
          refine g_X8_127 dX8_takesNumber_53 mU_0 ?_
          refine xt_icmp_ge 121 dX8_takesNumber_56 rfl (fun c56 => ?_) (fun c56 => ?_)
          · have hd2 : ¬ dgA tp t (sk tp t b + 2) := fun q => absurd c56 (nI_ge (by have := q.1; omega) (by omega))
            obtain rfl := hres.symm.trans (rN2_2 hd0 hd1 hd2)
            refine al0 dX8_takesNumber_121 ?_
            refine il1 dX8_takesNumber_122 ?_
            apply xj_if_eq 134 dX8_takesNumber_123 rfl
            · intro k123
              refine ⟨fun c123 => ?_, fun c123 => ?_⟩
              · refine al0 dX8_takesNumber_134 ?_
                refine g_X8_144 dX8_takesNumber_135 mU_0 ?_
                exact xt_it1 k123 c123
              · refine al0 dX8_takesNumber_126 ?_
                refine g_X8_144 dX8_takesNumber_127 mU_0 ?_
                refine xt_ineg dX8_takesNumber_130 ?_
                refine xt_goto 138 dX8_takesNumber_131 rfl ?_
                exact xt_it2 k123 c123
            · skip
              refine p_X8_144 dX8_takesNumber_138 mU_0 ?_
              refine xt_heq mU_p0 ?_
              refine xt_iconst (1) dX8_takesNumber_141 rfl ?_
              exact xt_zret dX8_takesNumber_142 rfl (Or.inr rfl) (lb rfl) (lb rfl) ⟨rfl, ⟨_, rfl, fun v hv => by cases hv; rfl⟩, rfl⟩
          · have hl2 : sk tp t b + 2 < t := nI_lt_of c56 (by omega)
            refine al0 dX8_takesNumber_59 ?_
            refine g_X8_17 dX8_takesNumber_60 mU_0 ?_
            refine al0 dX8_takesNumber_63 ?_
            refine g_X8_131 dX8_takesNumber_64 mU_0 ?_
            refine xt_iald (sk tp t b + 2) mU_2 (by omega) rfl (by decide) dX8_takesNumber_67 ?_
            refine s_X8_141 dX8_takesNumber_68 (cn_X8_isDigit _) ⟨lb rfl, lb rfl, lb rfl, lb rfl⟩ ?_
            refine xt_if_eq 121 dX8_takesNumber_71 rfl (fun c71 => ?_) (fun c71 => ?_)
            · have hd2 : ¬ dgA tp t (sk tp t b + 2) := fun q => of_fl0 c71 q.2
              obtain rfl := hres.symm.trans (rN2_2 hd0 hd1 hd2)
              refine al0 dX8_takesNumber_121 ?_
              refine il1 dX8_takesNumber_122 ?_
              apply xj_if_eq 134 dX8_takesNumber_123 rfl
              · intro k123
                refine ⟨fun c123 => ?_, fun c123 => ?_⟩
                · refine al0 dX8_takesNumber_134 ?_
                  refine g_X8_144 dX8_takesNumber_135 mU_0 ?_
                  exact xt_it1 k123 c123
                · refine al0 dX8_takesNumber_126 ?_
                  refine g_X8_144 dX8_takesNumber_127 mU_0 ?_
                  refine xt_ineg dX8_takesNumber_130 ?_
                  refine xt_goto 138 dX8_takesNumber_131 rfl ?_
                  exact xt_it2 k123 c123
              · skip
                refine p_X8_144 dX8_takesNumber_138 mU_0 ?_
                refine xt_heq mU_p0 ?_
                refine xt_iconst (1) dX8_takesNumber_141 rfl ?_
                exact xt_zret dX8_takesNumber_142 rfl (Or.inr rfl) (lb rfl) (lb rfl) ⟨rfl, ⟨_, rfl, fun v hv => by cases hv; rfl⟩, rfl⟩
            · have hd2 : dgA tp t (sk tp t b + 2) := ⟨hl2, of_fl1 c71⟩
              obtain rfl := hres.symm.trans (rN2_3 hd0 hd1 hd2)
              refine il2 dX8_takesNumber_74 ?_
              refine xt_iconst (2) dX8_takesNumber_75 rfl ?_
              refine xt_icmp_ne 81 dX8_takesNumber_76 rfl (fun q => absurd (by decide) q) (fun _ => ?_)
              refine xt_iconst (0) dX8_takesNumber_79 rfl ?_
              exact xt_zret dX8_takesNumber_80 rfl (Or.inl rfl) (lb rfl) (lb rfl) ⟨rfl, ⟨_, rfl, fun v hv => nomatch hv⟩, rfl⟩
    · have hd0 : ¬ dgA tp t (sk tp t b) := fun q => of_fl0 c36 (hV_dg.mpr q)
      obtain rfl := hres.symm.trans (rN2_0 hd0)
      refine xt_iconst (0) dX8_takesNumber_39 rfl ?_
      exact xt_zret dX8_takesNumber_40 rfl (Or.inl rfl) (lb rfl) (lb rfl) ⟨rfl, ⟨_, rfl, fun v hv => nomatch hv⟩, rfl⟩
  have hs := sk_le (tp := tp) ha
  refine al0 dX8_takesNumber_0 ?_
  refine s_X8_138 dX8_takesNumber_1 (cn_X8_here t ht (a) (by omega)) mU_0 ⟨lb rfl, lb rfl, lb rfl, lb rfl⟩ ?_
  refine xt_bipush (45) dX8_takesNumber_4 rfl ?_
  refine xt_icmp_ne 13 dX8_takesNumber_6 rfl (fun c6 => ?_) (fun c6 => ?_)
  · refine xt_iconst (0) dX8_takesNumber_13 rfl ?_
    refine is1 dX8_takesNumber_14 (by decide) rfl ?_
    refine il1 dX8_takesNumber_15 ?_
    refine xt_if_eq 29 dX8_takesNumber_16 rfl (fun _ => ?_) (fun q => absurd (by decide) q)
    exact go 0 _ (by omega) ((rNum_0 (fun q => c6 ((hV_c (by decide)).mpr q))).symm.trans hres)
  · have hc := (hV_c (tp := tp) (t := t) (a := a) (by decide)).mp c6
    refine xt_iconst (1) dX8_takesNumber_9 rfl ?_
    refine xt_goto 14 dX8_takesNumber_10 rfl ?_
    refine is1 dX8_takesNumber_14 (by decide) rfl ?_
    refine il1 dX8_takesNumber_15 ?_
    refine xt_if_eq 29 dX8_takesNumber_16 rfl (fun q => absurd q (by decide)) (fun _ => ?_)
    refine al0 dX8_takesNumber_19 ?_
    refine xt_dup dX8_takesNumber_20 rfl ?_
    refine g_X8_131 dX8_takesNumber_21 mU_0 ?_
    refine xt_iconst (1) dX8_takesNumber_24 rfl ?_
    refine xt_iadd dX8_takesNumber_25 ?_
    refine xt_eqv (nI (sk tp t (a) + 1)) (ne_add (a := sk tp t (a)) (b := 1) rfl rfl) ?_
    refine p_X8_131 dX8_takesNumber_26 mU_0 ?_
    refine xt_heq mU_p0 ?_
    exact go 1 _ hc.1 ((rNum_1 hc).symm.trans hres)
theorem upd_o {f : Nat → Int32} {c j : Nat} {v : Int32} (h : ¬ j = c) : upd f c v j = f j := by unfold upd; rw [if_neg h]
theorem upd_s {f : Nat → Int32} {c : Nat} {v : Int32} : upd f c v c = v := by unfold upd; rw [if_pos rfl]
set_option maxHeartbeats 400000 in
set_option maxRecDepth 100000 in
theorem cn_X8_takesPiece {h : ax_H} {n : Nat} {M : Nat} {un iu   nu ab be : Int32} {w tp mv rd ms mn la : Nat → Int32} {it tk : Nat → Int64} (t : Nat) (ht : t ≤ 140) (ho : TPo tp t) (k : Nat) (hk12 : k < 12) (a : Nat) (ha : a ≤ t) (res : Option (Int32 × Int32 × Int32 × Int32) × Nat) (hres : rPc tp t a = res) : ax_C yX8_takesPiece cX8_takesPiece 5 (some .boolean) 3 0 0 [.ref M, .int (nI k)] (mU h M un iu (nI t) (nI (a)) nu ab be w tp mv rd ms mn la it tk) n (kE (if res.1.isSome then 1 else 0) (fun h2 => ∃ nu2 rd2, h2 = (mU h M un iu (nI t) (nI (res.2)) (nu2) ab be w tp mv (rd2) ms mn la it tk) ∧ (∀ j, j < 4 * k → rd2 j = rd j) ∧ ∀ kd x y z, res.1 = some (kd, x, y, z) → rd2 (4 * k) = kd ∧ rd2 (4 * k + 1) = x ∧ rd2 (4 * k + 2) = y ∧ rd2 (4 * k + 3) = z) n) := by
  refine ax_C.go RX8 "takesPiece" [some (.ref M), some (.int (nI k)), none, none, none] rfl rfl pn_X8 (lb rfl) rfl (fun l G cy bs => ?_)
  have hs := sk_le (tp := tp) ha
  refine al0 dX8_takesPiece_0 ?_
  refine s_X8_138 dX8_takesPiece_1 (cn_X8_here t ht (a) (by omega)) mU_0 ⟨lb rfl, lb rfl, lb rfl, lb rfl⟩ ?_
  refine s_X8_147 dX8_takesPiece_4 (cn_X8_kindOf _) ⟨lb rfl, lb rfl, lb rfl, lb rfl⟩ ?_
  refine is2 dX8_takesPiece_7 (by decide) rfl ?_
  refine il2 dX8_takesPiece_8 ?_
  refine xt_if_ge 14 dX8_takesPiece_9 rfl (fun c9 => ?_) (fun c9 => ?_)
  · have hlt := kdV_lt ho c9
    have hk := c9
    refine al0 dX8_takesPiece_14 ?_
    refine g_X8_131 dX8_takesPiece_15 mU_0 ?_
    refine is3 dX8_takesPiece_18 (by decide) rfl ?_
    refine al0 dX8_takesPiece_19 ?_
    refine xt_dup dX8_takesPiece_20 rfl ?_
    refine g_X8_131 dX8_takesPiece_21 mU_0 ?_
    refine xt_iconst (1) dX8_takesPiece_24 rfl ?_
    refine xt_iadd dX8_takesPiece_25 ?_
    refine xt_eqv (nI (sk tp t (a) + 1)) (ne_add (a := sk tp t (a)) (b := 1) rfl rfl) ?_
    refine p_X8_131 dX8_takesPiece_26 mU_0 ?_
    refine xt_heq mU_p0 ?_
    refine al0 dX8_takesPiece_29 ?_
    refine g_X8_23 dX8_takesPiece_30 mU_0 ?_
    refine xt_iconst (4) dX8_takesPiece_33 rfl ?_
    refine il1 dX8_takesPiece_34 ?_
    refine xt_imul dX8_takesPiece_35 ?_
    refine il2 dX8_takesPiece_36 ?_
    refine xt_iast (4 * k) mU_4 (by omega) ((ne_mul (a := 4) (b := k) rfl rfl).trans (congrArg nI (by omega))) (by decide) dX8_takesPiece_37 ?_
    refine xt_heq mU_p4 ?_
    refine xt_iconst (1) dX8_takesPiece_38 rfl ?_
    refine is4 dX8_takesPiece_39 (by decide) rfl ?_
    refine il4 dX8_takesPiece_41 ?_
    refine xt_iconst (4) dX8_takesPiece_43 rfl ?_
    refine xt_icmp_ge 104 dX8_takesPiece_44 rfl (fun q => absurd q (by decide)) (fun _ => ?_)
    refine il4 dX8_takesPiece_47 ?_
    refine xt_iconst (1) dX8_takesPiece_49 rfl ?_
    refine xt_icmp_le 74 dX8_takesPiece_50 rfl (fun _ => ?_) (fun q => absurd (by decide) q)
    refine al0 dX8_takesPiece_74 ?_
    have l1 := rNum_le (tp := tp) (t := t) (a := sk tp t (a) + 1) (by omega)
    rcases e1 : rNum tp t (sk tp t (a) + 1) with ⟨_ | v1, a1⟩
    · rw [e1] at l1
      refine sE_X8_150 dX8_takesPiece_75 (cn_X8_takesNumber t ht (sk tp t (a) + 1) (by omega) _ e1) mU_0 ⟨lb rfl, lb rfl, lb rfl, lb rfl⟩ ?_
      rintro _ ⟨nu1, rfl, hv1⟩
      refine xt_eqv 0 rfl ?_
      obtain rfl := hres.symm.trans (rPc_1 hk e1)
      refine xt_if_ne 83 dX8_takesPiece_78 rfl (fun q => absurd (by decide) q) (fun _ => ?_)
      refine xt_iconst (0) dX8_takesPiece_81 rfl ?_
      exact xt_zret dX8_takesPiece_82 rfl (Or.inl rfl) (lb rfl) (lb rfl) ⟨rfl, ⟨_, _, rfl, (fun j hj => by rw [upd_o (by omega)]), fun _ _ _ _ hv => nomatch hv⟩, rfl⟩
    · rw [e1] at l1
      refine sE_X8_150 dX8_takesPiece_75 (cn_X8_takesNumber t ht (sk tp t (a) + 1) (by omega) _ e1) mU_0 ⟨lb rfl, lb rfl, lb rfl, lb rfl⟩ ?_
      rintro _ ⟨nu1, rfl, hv1⟩
      obtain rfl : nu1 = v1 := hv1 _ rfl
      refine xt_eqv 1 rfl ?_
      refine xt_if_ne 83 dX8_takesPiece_78 rfl (fun _ => ?_) (fun q => absurd q (by decide))
      refine al0 dX8_takesPiece_83 ?_
      refine g_X8_23 dX8_takesPiece_84 mU_0 ?_
      refine xt_iconst (4) dX8_takesPiece_87 rfl ?_
      refine il1 dX8_takesPiece_88 ?_
      refine xt_imul dX8_takesPiece_89 ?_
      refine il4 dX8_takesPiece_90 ?_
      refine xt_iadd dX8_takesPiece_92 ?_
      refine al0 dX8_takesPiece_93 ?_
      refine g_X8_144 dX8_takesPiece_94 mU_0 ?_
      refine xt_iast (4 * k + 1) mU_4 (by omega) ((ne_add (a := (4) * (k)) (b := 1) (ne_mul (a := 4) (b := k) rfl rfl) rfl).trans (congrArg nI (by omega))) (by decide) dX8_takesPiece_97 ?_
      refine xt_heq mU_p4 ?_
      refine inc4 (2) dX8_takesPiece_98 rfl (by decide) rfl ?_
      refine xt_goto 41 dX8_takesPiece_101 rfl ?_
      refine il4 dX8_takesPiece_41 ?_
      refine xt_iconst (4) dX8_takesPiece_43 rfl ?_
      refine xt_icmp_ge 104 dX8_takesPiece_44 rfl (fun q => absurd q (by decide)) (fun _ => ?_)
      refine il4 dX8_takesPiece_47 ?_
      refine xt_iconst (1) dX8_takesPiece_49 rfl ?_
      refine xt_icmp_le 74 dX8_takesPiece_50 rfl (fun q => absurd q (by decide)) (fun _ => ?_)
      refine al0 dX8_takesPiece_53 ?_
      have k2 := sk_le (tp := tp) (t := t) (a := a1) (by omega)
      refine s_X8_138 dX8_takesPiece_54 (cn_X8_here t ht (a1) (by omega)) mU_0 ⟨lb rfl, lb rfl, lb rfl, lb rfl⟩ ?_
      refine xt_bipush (44) dX8_takesPiece_57 rfl ?_
      refine xt_icmp_eq 64 dX8_takesPiece_59 rfl (fun c59 => ?_) (fun c59 => ?_)
      · have hc2 := (hV_c (tp := tp) (t := t) (a := a1) (by decide)).mp c59
        have hl2 := hc2.1
        refine al0 dX8_takesPiece_64 ?_
        refine xt_dup dX8_takesPiece_65 rfl ?_
        refine g_X8_131 dX8_takesPiece_66 mU_0 ?_
        refine xt_iconst (1) dX8_takesPiece_69 rfl ?_
        refine xt_iadd dX8_takesPiece_70 ?_
        refine xt_eqv (nI (sk tp t (a1) + 1)) (ne_add (a := sk tp t (a1)) (b := 1) rfl rfl) ?_
        refine p_X8_131 dX8_takesPiece_71 mU_0 ?_
        refine xt_heq mU_p0 ?_
        refine al0 dX8_takesPiece_74 ?_
        have l2 := rNum_le (tp := tp) (t := t) (a := sk tp t (a1) + 1) (by omega)
        rcases e2 : rNum tp t (sk tp t (a1) + 1) with ⟨_ | v2, a2⟩
        · rw [e2] at l2
          refine sE_X8_150 dX8_takesPiece_75 (cn_X8_takesNumber t ht (sk tp t (a1) + 1) (by omega) _ e2) mU_0 ⟨lb rfl, lb rfl, lb rfl, lb rfl⟩ ?_
          rintro _ ⟨nu2, rfl, hv2⟩
          refine xt_eqv 0 rfl ?_
          obtain rfl := hres.symm.trans (rPc_2 hk e1 ((rCm_1 hc2).trans e2))
          refine xt_if_ne 83 dX8_takesPiece_78 rfl (fun q => absurd (by decide) q) (fun _ => ?_)
          refine xt_iconst (0) dX8_takesPiece_81 rfl ?_
          exact xt_zret dX8_takesPiece_82 rfl (Or.inl rfl) (lb rfl) (lb rfl) ⟨rfl, ⟨_, _, rfl, (fun j hj => by rw [upd_o (by omega)]; rw [upd_o (by omega)]), fun _ _ _ _ hv => nomatch hv⟩, rfl⟩
        · rw [e2] at l2
          refine sE_X8_150 dX8_takesPiece_75 (cn_X8_takesNumber t ht (sk tp t (a1) + 1) (by omega) _ e2) mU_0 ⟨lb rfl, lb rfl, lb rfl, lb rfl⟩ ?_
          rintro _ ⟨nu2, rfl, hv2⟩
          obtain rfl : nu2 = v2 := hv2 _ rfl
          refine xt_eqv 1 rfl ?_
          refine xt_if_ne 83 dX8_takesPiece_78 rfl (fun _ => ?_) (fun q => absurd q (by decide))
          refine al0 dX8_takesPiece_83 ?_
          refine g_X8_23 dX8_takesPiece_84 mU_0 ?_
          refine xt_iconst (4) dX8_takesPiece_87 rfl ?_
          refine il1 dX8_takesPiece_88 ?_
          refine xt_imul dX8_takesPiece_89 ?_
          refine il4 dX8_takesPiece_90 ?_
          refine xt_iadd dX8_takesPiece_92 ?_
          refine al0 dX8_takesPiece_93 ?_
          refine g_X8_144 dX8_takesPiece_94 mU_0 ?_
          refine xt_iast (4 * k + 2) mU_4 (by omega) ((ne_add (a := (4) * (k)) (b := 2) (ne_mul (a := 4) (b := k) rfl rfl) rfl).trans (congrArg nI (by omega))) (by decide) dX8_takesPiece_97 ?_
          refine xt_heq mU_p4 ?_
          refine inc4 (3) dX8_takesPiece_98 rfl (by decide) rfl ?_
          refine xt_goto 41 dX8_takesPiece_101 rfl ?_
          refine il4 dX8_takesPiece_41 ?_
          refine xt_iconst (4) dX8_takesPiece_43 rfl ?_
          refine xt_icmp_ge 104 dX8_takesPiece_44 rfl (fun q => absurd q (by decide)) (fun _ => ?_)
          refine il4 dX8_takesPiece_47 ?_
          refine xt_iconst (1) dX8_takesPiece_49 rfl ?_
          refine xt_icmp_le 74 dX8_takesPiece_50 rfl (fun q => absurd q (by decide)) (fun _ => ?_)
          refine al0 dX8_takesPiece_53 ?_
          have k3 := sk_le (tp := tp) (t := t) (a := a2) (by omega)
          refine s_X8_138 dX8_takesPiece_54 (cn_X8_here t ht (a2) (by omega)) mU_0 ⟨lb rfl, lb rfl, lb rfl, lb rfl⟩ ?_
          refine xt_bipush (44) dX8_takesPiece_57 rfl ?_
          refine xt_icmp_eq 64 dX8_takesPiece_59 rfl (fun c59 => ?_) (fun c59 => ?_)
          · have hc3 := (hV_c (tp := tp) (t := t) (a := a2) (by decide)).mp c59
            have hl3 := hc3.1
            refine al0 dX8_takesPiece_64 ?_
            refine xt_dup dX8_takesPiece_65 rfl ?_
            refine g_X8_131 dX8_takesPiece_66 mU_0 ?_
            refine xt_iconst (1) dX8_takesPiece_69 rfl ?_
            refine xt_iadd dX8_takesPiece_70 ?_
            refine xt_eqv (nI (sk tp t (a2) + 1)) (ne_add (a := sk tp t (a2)) (b := 1) rfl rfl) ?_
            refine p_X8_131 dX8_takesPiece_71 mU_0 ?_
            refine xt_heq mU_p0 ?_
            refine al0 dX8_takesPiece_74 ?_
            have l3 := rNum_le (tp := tp) (t := t) (a := sk tp t (a2) + 1) (by omega)
            rcases e3 : rNum tp t (sk tp t (a2) + 1) with ⟨_ | v3, a3⟩
            · rw [e3] at l3
              refine sE_X8_150 dX8_takesPiece_75 (cn_X8_takesNumber t ht (sk tp t (a2) + 1) (by omega) _ e3) mU_0 ⟨lb rfl, lb rfl, lb rfl, lb rfl⟩ ?_
              rintro _ ⟨nu3, rfl, hv3⟩
              refine xt_eqv 0 rfl ?_
              obtain rfl := hres.symm.trans (rPc_3 hk e1 ((rCm_1 hc2).trans e2) ((rCm_1 hc3).trans e3))
              refine xt_if_ne 83 dX8_takesPiece_78 rfl (fun q => absurd (by decide) q) (fun _ => ?_)
              refine xt_iconst (0) dX8_takesPiece_81 rfl ?_
              exact xt_zret dX8_takesPiece_82 rfl (Or.inl rfl) (lb rfl) (lb rfl) ⟨rfl, ⟨_, _, rfl, (fun j hj => by rw [upd_o (by omega)]; rw [upd_o (by omega)]; rw [upd_o (by omega)]), fun _ _ _ _ hv => nomatch hv⟩, rfl⟩
            · rw [e3] at l3
              refine sE_X8_150 dX8_takesPiece_75 (cn_X8_takesNumber t ht (sk tp t (a2) + 1) (by omega) _ e3) mU_0 ⟨lb rfl, lb rfl, lb rfl, lb rfl⟩ ?_
              rintro _ ⟨nu3, rfl, hv3⟩
              obtain rfl : nu3 = v3 := hv3 _ rfl
              refine xt_eqv 1 rfl ?_
              refine xt_if_ne 83 dX8_takesPiece_78 rfl (fun _ => ?_) (fun q => absurd q (by decide))
              refine al0 dX8_takesPiece_83 ?_
              refine g_X8_23 dX8_takesPiece_84 mU_0 ?_
              refine xt_iconst (4) dX8_takesPiece_87 rfl ?_
              refine il1 dX8_takesPiece_88 ?_
              refine xt_imul dX8_takesPiece_89 ?_
              refine il4 dX8_takesPiece_90 ?_
              refine xt_iadd dX8_takesPiece_92 ?_
              refine al0 dX8_takesPiece_93 ?_
              refine g_X8_144 dX8_takesPiece_94 mU_0 ?_
              refine xt_iast (4 * k + 3) mU_4 (by omega) ((ne_add (a := (4) * (k)) (b := 3) (ne_mul (a := 4) (b := k) rfl rfl) rfl).trans (congrArg nI (by omega))) (by decide) dX8_takesPiece_97 ?_
              refine xt_heq mU_p4 ?_
              refine inc4 (4) dX8_takesPiece_98 rfl (by decide) rfl ?_
              refine xt_goto 41 dX8_takesPiece_101 rfl ?_
              refine il4 dX8_takesPiece_41 ?_
              refine xt_iconst (4) dX8_takesPiece_43 rfl ?_
              refine xt_icmp_ge 104 dX8_takesPiece_44 rfl (fun _ => ?_) (fun q => absurd (by decide) q)
              refine il2 dX8_takesPiece_104 ?_
              refine al0 dX8_takesPiece_105 ?_
              refine g_X8_23 dX8_takesPiece_106 mU_0 ?_
              refine xt_iconst (4) dX8_takesPiece_109 rfl ?_
              refine il1 dX8_takesPiece_110 ?_
              refine xt_imul dX8_takesPiece_111 ?_
              refine xt_iconst (1) dX8_takesPiece_112 rfl ?_
              refine xt_iadd dX8_takesPiece_113 ?_
              refine xt_iald (4 * k + 1) mU_4 (by omega) ((ne_add (a := (4) * (k)) (b := 1) (ne_mul (a := 4) (b := k) rfl rfl) rfl).trans (congrArg nI (by omega))) (by decide) dX8_takesPiece_114 ?_
              refine xt_eqv nu1 (by rw [upd_o (by omega), upd_o (by omega), upd_s]) ?_
              refine al0 dX8_takesPiece_115 ?_
              refine g_X8_23 dX8_takesPiece_116 mU_0 ?_
              refine xt_iconst (4) dX8_takesPiece_119 rfl ?_
              refine il1 dX8_takesPiece_120 ?_
              refine xt_imul dX8_takesPiece_121 ?_
              refine xt_iconst (2) dX8_takesPiece_122 rfl ?_
              refine xt_iadd dX8_takesPiece_123 ?_
              refine xt_iald (4 * k + 2) mU_4 (by omega) ((ne_add (a := (4) * (k)) (b := 2) (ne_mul (a := 4) (b := k) rfl rfl) rfl).trans (congrArg nI (by omega))) (by decide) dX8_takesPiece_124 ?_
              refine xt_eqv nu2 (by rw [upd_o (by omega), upd_s]) ?_
              refine al0 dX8_takesPiece_125 ?_
              refine g_X8_23 dX8_takesPiece_126 mU_0 ?_
              refine xt_iconst (4) dX8_takesPiece_129 rfl ?_
              refine il1 dX8_takesPiece_130 ?_
              refine xt_imul dX8_takesPiece_131 ?_
              refine xt_iconst (3) dX8_takesPiece_132 rfl ?_
              refine xt_iadd dX8_takesPiece_133 ?_
              refine xt_iald (4 * k + 3) mU_4 (by omega) ((ne_add (a := (4) * (k)) (b := 3) (ne_mul (a := 4) (b := k) rfl rfl) rfl).trans (congrArg nI (by omega))) (by decide) dX8_takesPiece_134 ?_
              refine xt_eqv nu3 upd_s ?_
              refine s_X8_154 dX8_takesPiece_135 (cn_X8_isPiece _ _ _ _) ⟨lb rfl, lb rfl, lb rfl, lb rfl⟩ ?_
              refine xt_if_ne 148 dX8_takesPiece_138 rfl (fun c138 => ?_) (fun c138 => ?_)
              · obtain rfl := hres.symm.trans (rPc_5 hk e1 ((rCm_1 hc2).trans e2) ((rCm_1 hc3).trans e3) (of_fl1 c138))
                refine xt_iconst (1) dX8_takesPiece_148 rfl ?_
                exact xt_zret dX8_takesPiece_149 rfl (Or.inr rfl) (lb rfl) (lb rfl) ⟨rfl, ⟨_, _, rfl, (fun j hj => by rw [upd_o (by omega), upd_o (by omega), upd_o (by omega), upd_o (by omega)]), fun kd x y z hv => by cases hv; exact ⟨by rw [upd_o (by omega), upd_o (by omega), upd_o (by omega), upd_s], by rw [upd_o (by omega), upd_o (by omega), upd_s], by rw [upd_o (by omega), upd_s], upd_s⟩⟩, rfl⟩
              · obtain rfl := hres.symm.trans (rPc_4 hk e1 ((rCm_1 hc2).trans e2) ((rCm_1 hc3).trans e3) (of_fl0 c138))
                refine al0 dX8_takesPiece_141 ?_
                refine il3 dX8_takesPiece_142 ?_
                refine p_X8_131 dX8_takesPiece_143 mU_0 ?_
                refine xt_heq mU_p0 ?_
                refine xt_iconst (0) dX8_takesPiece_146 rfl ?_
                exact xt_zret dX8_takesPiece_147 rfl (Or.inl rfl) (lb rfl) (lb rfl) ⟨rfl, ⟨_, _, rfl, (fun j hj => by rw [upd_o (by omega)]; rw [upd_o (by omega)]; rw [upd_o (by omega)]; rw [upd_o (by omega)]), fun _ _ _ _ hv => nomatch hv⟩, rfl⟩
          · obtain rfl := hres.symm.trans (rPc_3 hk e1 ((rCm_1 hc2).trans e2) (rCm_0 (fun q => c59 ((hV_c (by decide)).mpr q))))
            refine xt_iconst (0) dX8_takesPiece_62 rfl ?_
            exact xt_zret dX8_takesPiece_63 rfl (Or.inl rfl) (lb rfl) (lb rfl) ⟨rfl, ⟨_, _, rfl, (fun j hj => by rw [upd_o (by omega)]; rw [upd_o (by omega)]; rw [upd_o (by omega)]), fun _ _ _ _ hv => nomatch hv⟩, rfl⟩
      · obtain rfl := hres.symm.trans (rPc_2 hk e1 (rCm_0 (fun q => c59 ((hV_c (by decide)).mpr q))))
        refine xt_iconst (0) dX8_takesPiece_62 rfl ?_
        exact xt_zret dX8_takesPiece_63 rfl (Or.inl rfl) (lb rfl) (lb rfl) ⟨rfl, ⟨_, _, rfl, (fun j hj => by rw [upd_o (by omega)]; rw [upd_o (by omega)]), fun _ _ _ _ hv => nomatch hv⟩, rfl⟩
  · obtain rfl := hres.symm.trans (rPc_k c9)
    refine xt_iconst (0) dX8_takesPiece_12 rfl ?_
    exact xt_zret dX8_takesPiece_13 rfl (Or.inl rfl) (lb rfl) (lb rfl) ⟨rfl, ⟨_, _, rfl, (fun j hj => rfl), fun _ _ _ _ hv => nomatch hv⟩, rfl⟩
def plN (s : rRs) : Int32 := match s.1 with
  | some N => nI N
  | none => -1
set_option maxHeartbeats 400000 in
set_option maxRecDepth 100000 in
theorem cn_X8_takesPlan {h : ax_H} {n : Nat} {M : Nat} {un iu   nu ab be : Int32} {w tp mv rd ms mn la : Nat → Int32} {it tk : Nat → Int64} (t : Nat) (ht : t ≤ 140) (ho : TPo tp t) (res : rRs) (hres : rPl tp t = res) : ax_C yX8_takesPlan cX8_takesPlan 3 (some .int) 4 0 0 [.ref M] (mU h M un iu (nI t) (nI (0)) nu ab be w tp mv rd ms mn la it tk) n (kE (plN res) (fun h2 => ∃ nu2 rd2, h2 = (mU h M un iu (nI t) (nI (res.2.1)) (nu2) ab be w tp mv (rd2) ms mn la it tk) ∧ ∀ N, res.1 = some N → ∀ j, j < 4 * N → rd2 j = res.2.2 j) n) := by
  refine ax_C.go RX8 "takesPlan" [some (.ref M), none, none] rfl rfl pn_X8 (lb rfl) rfl (fun l G cy bs => ?_)
  have hs0 := sk_le (tp := tp) (t := t) (a := 0) (by omega)
  have lp : ∀ (d k a : Nat) (q : Nat → Int32) (nu : Int32) (rd : Nat → Int32), k + d = 12 → k < 12 → a ≤ t → (∀ j, j < 4 * k → rd j = q j) → rLp tp t d k a q = res → ax_T l G cy bs (ax_rm 4 0 0) RX8 "takesPlan" cX8_takesPlan 3 (some .int) (kE (plN res) (fun h2 => ∃ nu2 rd2, h2 = (mU h M un iu (nI t) (nI (res.2.1)) (nu2) ab be w tp mv (rd2) ms mn la it tk) ∧ ∀ N, res.1 = some N → ∀ j, j < 4 * N → rd2 j = res.2.2 j) n) 0 0 13 [some (.ref M), some (.int (nI k)), some (.int 1)] [] (mU h M un iu (nI t) (nI (a)) nu ab be w tp mv rd ms mn la it tk) n 0 0 := by
    intro d
    induction d with
    | zero => intro k a q nu rd hk hk2; omega
    | succ d ih =>
      intro k a q nu rd hk hk2 ha hrd hres
      rcases rPc_cs ho ha with ⟨a1, e1, l1⟩ | ⟨kd, x, y, z, a1, e1, l1, -⟩
      · obtain rfl := hres.symm.trans (rLp_n e1)
        refine il2 dX8_takesPlan_13 ?_
        refine xt_if_eq 72 dX8_takesPlan_14 rfl (fun q => absurd q (by decide)) (fun _ => ?_)
        refine al0 dX8_takesPlan_17 ?_
        refine il1 dX8_takesPlan_18 ?_
        refine sE_X8_158 dX8_takesPlan_19 (cn_X8_takesPiece t ht ho k (by omega) a ha _ e1) mU_0 ⟨lb rfl, lb rfl, lb rfl, lb rfl⟩ ?_
        rintro _ ⟨nu1, rd1, rfl, hlo, hv⟩
        refine xt_eqv 0 rfl ?_
        refine xt_if_ne 27 dX8_takesPlan_22 rfl (fun q => absurd (by decide) q) (fun _ => ?_)
        refine xt_iconst (-1) dX8_takesPlan_25 rfl ?_
        exact xt_iret dX8_takesPlan_26 rfl (lb rfl) (lb rfl) ⟨rfl, ⟨_, _, rfl, fun N hN => nomatch hN⟩, rfl⟩
      · skip
        refine il2 dX8_takesPlan_13 ?_
        refine xt_if_eq 72 dX8_takesPlan_14 rfl (fun q => absurd q (by decide)) (fun _ => ?_)
        refine al0 dX8_takesPlan_17 ?_
        refine il1 dX8_takesPlan_18 ?_
        refine sE_X8_158 dX8_takesPlan_19 (cn_X8_takesPiece t ht ho k (by omega) a ha _ e1) mU_0 ⟨lb rfl, lb rfl, lb rfl, lb rfl⟩ ?_
        rintro _ ⟨nu1, rd1, rfl, hlo, hv⟩
        refine xt_eqv 1 rfl ?_
        obtain ⟨q0, q1, q2, q3⟩ := hv kd x y z rfl
        have hrd1 : ∀ j, j < 4 * (k + 1) → rd1 j = lay q (4 * k) kd x y z j := by
          intro j hj
          rcases (show j < 4 * k ∨ j = 4 * k ∨ j = 4 * k + 1 ∨ j = 4 * k + 2 ∨ j = 4 * k + 3 by omega) with z0 | rfl | rfl | rfl | rfl
          · rw [ly_lo z0, hlo j z0, hrd j z0]
          · rw [lay_c0, q0]
          · rw [lay_c1, q1]
          · rw [lay_c2, q2]
          · rw [lay_c3, q3]
        have hs1 := sk_le (tp := tp) (t := t) (a := a1) l1
        refine xt_if_ne 27 dX8_takesPlan_22 rfl (fun _ => ?_) (fun q => absurd q (by decide))
        refine inc1 (nI (k + 1)) dX8_takesPlan_27 (nI_1 _) (by decide) rfl ?_
        refine al0 dX8_takesPlan_30 ?_
        refine s_X8_138 dX8_takesPlan_31 (cn_X8_here t ht a1 l1) mU_0 ⟨lb rfl, lb rfl, lb rfl, lb rfl⟩ ?_
        refine xt_bipush (59) dX8_takesPlan_34 rfl ?_
        refine xt_icmp_ne 49 dX8_takesPlan_36 rfl (fun c36 => ?_) (fun c36 => ?_)
        · have h2 : ¬ (tp (sk tp t a1) = 59 ∧ k + 1 < 12) ∨ t ≤ sk tp t a1 := by
            rcases Nat.lt_or_ge (sk tp t a1) t with z0 | z0
            · exact Or.inl (fun q => c36 ((hV_c (by decide)).mpr ⟨z0, q.1⟩))
            · exact Or.inr z0
          refine xt_iconst (0) dX8_takesPlan_49 rfl ?_
          refine is2 dX8_takesPlan_50 (by decide) rfl ?_
          refine al0 dX8_takesPlan_51 ?_
          refine xt_dup dX8_takesPlan_52 rfl ?_
          refine g_X8_131 dX8_takesPlan_53 mU_0 ?_
          refine il2 dX8_takesPlan_56 ?_
          refine xt_if_eq 64 dX8_takesPlan_57 rfl (fun _ => ?_) (fun q => absurd (by decide) q)
          refine xt_iconst (0) dX8_takesPlan_64 rfl ?_
          refine xt_iadd dX8_takesPlan_65 ?_
          refine xt_eqv (nI (sk tp t a1)) ((ne_add (a := sk tp t a1) (b := 0) rfl rfl).trans (congrArg nI (by omega))) ?_
          refine p_X8_131 dX8_takesPlan_66 mU_0 ?_
          refine xt_heq mU_p0 ?_
          refine xt_goto 13 dX8_takesPlan_69 rfl ?_
          refine il2 dX8_takesPlan_13 ?_
          refine xt_if_eq 72 dX8_takesPlan_14 rfl (fun _ => ?_) (fun q => absurd (by decide) q)
          refine al0 dX8_takesPlan_72 ?_
          refine s_X8_138 dX8_takesPlan_73 (cn_X8_here t ht (sk tp t a1) (by omega)) mU_0 ⟨lb rfl, lb rfl, lb rfl, lb rfl⟩ ?_
          rw [sk_id l1]
          refine xt_if_ge 83 dX8_takesPlan_76 rfl (fun c76 => ?_) (fun c76 => ?_)
          · have hlt := (hV_ge ho).mp c76
            rw [sk_id l1] at hlt
            obtain rfl := hres.symm.trans (rLp_f e1 (by omega) (h2.resolve_right (by omega)))
            refine xt_iconst (-1) dX8_takesPlan_83 rfl ?_
            exact xt_iret dX8_takesPlan_84 rfl (lb rfl) (lb rfl) ⟨rfl, ⟨_, _, rfl, fun N hN => nomatch hN⟩, rfl⟩
          · have hge : t ≤ sk tp t a1 := by
              rcases Nat.lt_or_ge (sk tp t a1) t with z1 | z1
              · exact absurd ((hV_ge ho).mpr (by rw [sk_id l1]; exact z1)) c76
              · exact z1
            obtain rfl := hres.symm.trans (rLp_e e1 hge)
            refine il1 dX8_takesPlan_79 ?_
            refine xt_goto 84 dX8_takesPlan_80 rfl ?_
            exact xt_iret dX8_takesPlan_84 rfl (lb rfl) (lb rfl) ⟨rfl, ⟨_, _, rfl, fun N hN j hj => by cases hN; exact hrd1 j hj⟩, rfl⟩
        · have hc := (hV_c (tp := tp) (t := t) (a := a1) (by decide)).mp c36
          have hlt := hc.1
          rcases Nat.lt_or_ge (k + 1) 12 with z0 | z0
          · skip
            refine il1 dX8_takesPlan_39 ?_
            refine xt_bipush (12) dX8_takesPlan_40 rfl ?_
            refine xt_icmp_ge 49 dX8_takesPlan_42 rfl (fun q => absurd q (nI_ge (b := 12) (by omega) (by decide))) (fun _ => ?_)
            refine xt_iconst (1) dX8_takesPlan_45 rfl ?_
            refine xt_goto 50 dX8_takesPlan_46 rfl ?_
            refine is2 dX8_takesPlan_50 (by decide) rfl ?_
            refine al0 dX8_takesPlan_51 ?_
            refine xt_dup dX8_takesPlan_52 rfl ?_
            refine g_X8_131 dX8_takesPlan_53 mU_0 ?_
            refine il2 dX8_takesPlan_56 ?_
            refine xt_if_eq 64 dX8_takesPlan_57 rfl (fun q => absurd q (by decide)) (fun _ => ?_)
            refine xt_iconst (1) dX8_takesPlan_60 rfl ?_
            refine xt_goto 65 dX8_takesPlan_61 rfl ?_
            refine xt_iadd dX8_takesPlan_65 ?_
            refine xt_eqv (nI (sk tp t a1 + 1)) (ne_add (a := sk tp t a1) (b := 1) rfl rfl) ?_
            refine p_X8_131 dX8_takesPlan_66 mU_0 ?_
            refine xt_heq mU_p0 ?_
            refine xt_goto 13 dX8_takesPlan_69 rfl ?_
            exact ih (k + 1) _ _ _ _ (by omega) z0 (by omega) hrd1 ((rLp_s e1 (by omega) ⟨hc.2, z0⟩).symm.trans hres)
          · have h2 : ¬ (tp (sk tp t a1) = 59 ∧ k + 1 < 12) ∨ t ≤ sk tp t a1 := Or.inl (fun q => by omega)
            refine il1 dX8_takesPlan_39 ?_
            refine xt_bipush (12) dX8_takesPlan_40 rfl ?_
            refine xt_icmp_ge 49 dX8_takesPlan_42 rfl (fun _ => ?_) (fun q => absurd (nI_le (a := 12) (by omega) (by omega)) q)
            refine xt_iconst (0) dX8_takesPlan_49 rfl ?_
            refine is2 dX8_takesPlan_50 (by decide) rfl ?_
            refine al0 dX8_takesPlan_51 ?_
            refine xt_dup dX8_takesPlan_52 rfl ?_
            refine g_X8_131 dX8_takesPlan_53 mU_0 ?_
            refine il2 dX8_takesPlan_56 ?_
            refine xt_if_eq 64 dX8_takesPlan_57 rfl (fun _ => ?_) (fun q => absurd (by decide) q)
            refine xt_iconst (0) dX8_takesPlan_64 rfl ?_
            refine xt_iadd dX8_takesPlan_65 ?_
            refine xt_eqv (nI (sk tp t a1)) ((ne_add (a := sk tp t a1) (b := 0) rfl rfl).trans (congrArg nI (by omega))) ?_
            refine p_X8_131 dX8_takesPlan_66 mU_0 ?_
            refine xt_heq mU_p0 ?_
            refine xt_goto 13 dX8_takesPlan_69 rfl ?_
            refine il2 dX8_takesPlan_13 ?_
            refine xt_if_eq 72 dX8_takesPlan_14 rfl (fun _ => ?_) (fun q => absurd (by decide) q)
            refine al0 dX8_takesPlan_72 ?_
            refine s_X8_138 dX8_takesPlan_73 (cn_X8_here t ht (sk tp t a1) (by omega)) mU_0 ⟨lb rfl, lb rfl, lb rfl, lb rfl⟩ ?_
            rw [sk_id l1]
            refine xt_if_ge 83 dX8_takesPlan_76 rfl (fun c76 => ?_) (fun c76 => ?_)
            · have hlt := (hV_ge ho).mp c76
              rw [sk_id l1] at hlt
              obtain rfl := hres.symm.trans (rLp_f e1 (by omega) (h2.resolve_right (by omega)))
              refine xt_iconst (-1) dX8_takesPlan_83 rfl ?_
              exact xt_iret dX8_takesPlan_84 rfl (lb rfl) (lb rfl) ⟨rfl, ⟨_, _, rfl, fun N hN => nomatch hN⟩, rfl⟩
            · have hge : t ≤ sk tp t a1 := by
                rcases Nat.lt_or_ge (sk tp t a1) t with z1 | z1
                · exact absurd ((hV_ge ho).mpr (by rw [sk_id l1]; exact z1)) c76
                · exact z1
              obtain rfl := hres.symm.trans (rLp_e e1 hge)
              refine il1 dX8_takesPlan_79 ?_
              refine xt_goto 84 dX8_takesPlan_80 rfl ?_
              exact xt_iret dX8_takesPlan_84 rfl (lb rfl) (lb rfl) ⟨rfl, ⟨_, _, rfl, fun N hN j hj => by cases hN; exact hrd1 j hj⟩, rfl⟩
  refine xt_iconst (0) dX8_takesPlan_0 rfl ?_
  refine is1 dX8_takesPlan_1 (by decide) rfl ?_
  refine al0 dX8_takesPlan_2 ?_
  refine s_X8_138 dX8_takesPlan_3 (cn_X8_here t ht (0) (by omega)) mU_0 ⟨lb rfl, lb rfl, lb rfl, lb rfl⟩ ?_
  refine xt_if_ge 11 dX8_takesPlan_6 rfl (fun c6 => ?_) (fun c6 => ?_)
  · have hlt := (hV_ge ho).mp c6
    refine xt_iconst (1) dX8_takesPlan_11 rfl ?_
    refine is2 dX8_takesPlan_12 (by decide) rfl ?_
    exact lp 12 0 _ (fun _ => 0) _ _ rfl (by omega) hs0 (fun j hj => by omega) (by rw [← hres]; unfold rPl; rw [if_neg (by omega)])
  · have hge : t ≤ sk tp t 0 := by
      rcases Nat.lt_or_ge (sk tp t 0) t with z1 | z1
      · exact absurd ((hV_ge ho).mpr z1) c6
      · exact z1
    have e : rPl tp t = (some 0, sk tp t 0, fun _ => 0) := by unfold rPl; rw [if_pos hge]
    obtain rfl := hres.symm.trans e
    refine xt_iconst (0) dX8_takesPlan_9 rfl ?_
    exact xt_iret dX8_takesPlan_10 rfl (lb rfl) (lb rfl) ⟨rfl, ⟨_, _, rfl, fun N hN j hj => by cases hN; omega⟩, rfl⟩
