set_option maxHeartbeats 400000 in
set_option maxRecDepth 100000 in
theorem cn_X3_readPiece {h : ax_H} {n : Nat} {t : Nat} {fo : Int32} {g tp : Nat → Int32} {a : Nat} {f q0 : Nat → Int32} (hT : h 120 = some (ax_B 140 g)) (hg : ∀ j, j < t → g j = tp j) (ht : t ≤ 140) (ha : a ≤ t) (h121 : h 121 = some (ax_R 3 12 (fun k => some (123 + k)))) (h122 : h 122 = some (ax_I 3 f)) (ho : TPo tp t) (k : Nat) (hk12 : k < 12) (hpk : h (123 + k) = some (ePc q0)) (res : Option (Int32 × Int32 × Int32 × Int32) × Nat) (hres : rPc tp t a = res) : ax_C yX3_readPiece cX3_readPiece 5 (some .boolean) 8 0 0 [.ref 119, .int (nI k)] (hp h 119 (eRd (nI t) (fo) (nI (a)))) n (kE (if res.1.isSome then 1 else 0) (fun h2 => h2 119 = some (eRd (nI t) fo (nI res.2)) ∧ (∃ f2, h2 122 = some (ax_I 3 f2)) ∧ (∀ j, j ≠ 119 → j ≠ 122 → j ≠ 123 + k → h2 j = h j) ∧ (∃ q, h2 (123 + k) = some (ePc q)) ∧ ∀ kd x y z, res.1 = some (kd, x, y, z) → h2 (123 + k) = some (ePc (tl kd x y z))) n) := by
  refine ax_C.go RX3 "readPiece" [some (.ref 119), some (.int (nI k)), none, none, none] rfl rfl pn_X3 (lb rfl) rfl (fun l G cy bs => ?_)
  have hs := sk_le (tp := tp) ha
  by_cases hk : 0 ≤ kdV (hV tp t a)
  · have hlt := kdV_lt ho hk
    refine al0 dX3_readPiece_0 ?_
    refine s_X3_36 dX3_readPiece_1 (cn_X3_atEnd hT hg ht (a := a) ha) (hp_s _ _ _) ⟨lb rfl, lb rfl, lb rfl, lb rfl⟩ ?_
    refine xt_eqv 0 (if_neg (by omega)) ?_
    refine xt_if_eq 11 dX3_readPiece_4 rfl (fun _ => ?_) (fun q => absurd (by decide) q)
    refine xt_ldcS dX3_readPiece_11 ?_
    refine al0 dX3_readPiece_13 ?_
    refine g_X3_9 dX3_readPiece_14 (hp_s _ _ _) ?_
    refine al0 dX3_readPiece_17 ?_
    refine g_X3_32 dX3_readPiece_18 (hp_s _ _ _) ?_
    refine xt_cald (sk tp t (a)) (hp_nt (by omega) hT) (by omega) rfl (by decide) dX3_readPiece_21 ?_
    refine xt_eqv (tp (sk tp t a)) (hg _ (by omega)) ?_
    refine xt_callVR (as := [.int (tp (sk tp t a))]) (cs_indexOf (ho _ (by omega)) l G cy bs) rfl sjc_J0_indexOf_0f7a4 sj_i0 sjm_J0_indexOf_0f7a4 sjl_J0_indexOf_0f7a4 mb300 sjd_J0_indexOf_0f7a4 ⟨lb rfl, lb rfl⟩ ⟨lb rfl, lb rfl⟩ (lb rfl) rfl dX3_readPiece_22 (ki_k ?_)
    refine xt_eqv (kdV (hV tp t a)) (by unfold hV; rw [if_neg (by omega)]) ?_
    refine is2 dX3_readPiece_25 (by decide) rfl ?_
    refine il2 dX3_readPiece_26 ?_
    refine xt_if_ge 32 dX3_readPiece_27 rfl (fun _ => ?_) (fun q => absurd hk q)
    refine al0 dX3_readPiece_32 ?_
    refine g_X3_32 dX3_readPiece_33 (hp_s _ _ _) ?_
    refine is3 dX3_readPiece_36 (by decide) rfl ?_
    refine al0 dX3_readPiece_37 ?_
    refine xt_dup dX3_readPiece_38 rfl ?_
    refine g_X3_32 dX3_readPiece_39 (hp_s _ _ _) ?_
    refine xt_iconst (1) dX3_readPiece_42 rfl ?_
    refine xt_iadd dX3_readPiece_43 ?_
    refine xt_eqv (nI (sk tp t (a) + 1)) (ne_add (a := sk tp t (a)) (b := 1) rfl rfl) ?_
    refine p_X3_32 dX3_readPiece_44 (hp_s _ _ _) ?_
    refine xt_eq (hp_hp _ _ _ _) ?_
    refine xt_iconst (0) dX3_readPiece_47 rfl ?_
    refine is4 dX3_readPiece_48 (by decide) rfl ?_
    refine il4 dX3_readPiece_50 ?_
    refine xt_iconst (3) dX3_readPiece_52 rfl ?_
    refine xt_icmp_ge 89 dX3_readPiece_53 rfl (fun q => absurd q (by decide)) (fun _ => ?_)
    refine il4 dX3_readPiece_56 ?_
    refine xt_if_le 72 dX3_readPiece_58 rfl (fun _ => ?_) (fun q => absurd (by decide) q)
    refine al0 dX3_readPiece_72 ?_
    refine il4 dX3_readPiece_73 ?_
    have l1 := rNum_le (tp := tp) (t := t) (a := sk tp t (a) + 1) (by omega)
    rcases e1 : rNum tp t (sk tp t (a) + 1) with ⟨_ | v1, a1⟩
    · rw [e1] at l1
      refine sP_X3_56 dX3_readPiece_75 (cn_X3_readNumber hT hg ht (by omega) h122 0 (by decide) _ e1) (hp_s _ _ _) ⟨lb rfl, lb rfl, lb rfl, lb rfl⟩ ?_
      rintro _ ⟨f1, rfl, hv1⟩
      refine xt_eqv 0 rfl ?_
      obtain rfl := hres.symm.trans (rPc_1 hk e1)
      refine xt_if_ne 83 dX3_readPiece_78 rfl (fun q => absurd (by decide) q) (fun _ => ?_)
      refine xt_iconst (0) dX3_readPiece_81 rfl ?_
      exact xt_zret dX3_readPiece_82 rfl (Or.inl rfl) (lb rfl) (lb rfl) ⟨rfl, ⟨hp_s _ _ _, ⟨_, hp_nt (by decide) (hp_s _ _ _)⟩, fun j j1 j2 j3 => by rw [hp_n _ _ j1, hp_n _ _ j2], ⟨_, hp_nt (by omega) (hp_nt (by omega) hpk)⟩, fun _ _ _ _ hv => nomatch hv⟩, rfl⟩
    · rw [e1] at l1
      refine sP_X3_56 dX3_readPiece_75 (cn_X3_readNumber hT hg ht (by omega) h122 0 (by decide) _ e1) (hp_s _ _ _) ⟨lb rfl, lb rfl, lb rfl, lb rfl⟩ ?_
      rintro _ ⟨f1, rfl, hv1⟩
      refine xt_eqv 1 rfl ?_
      obtain rfl : f1 = upd f 0 v1 := hv1 _ rfl
      refine xt_if_ne 83 dX3_readPiece_78 rfl (fun _ => ?_) (fun q => absurd q (by decide))
      refine inc4 (1) dX3_readPiece_83 rfl (by decide) rfl ?_
      refine xt_goto 50 dX3_readPiece_86 rfl ?_
      refine il4 dX3_readPiece_50 ?_
      refine xt_iconst (3) dX3_readPiece_52 rfl ?_
      refine xt_icmp_ge 89 dX3_readPiece_53 rfl (fun q => absurd q (by decide)) (fun _ => ?_)
      refine il4 dX3_readPiece_56 ?_
      refine xt_if_le 72 dX3_readPiece_58 rfl (fun q => absurd q (by decide)) (fun _ => ?_)
      refine al0 dX3_readPiece_61 ?_
      refine xt_bipush (44) dX3_readPiece_62 rfl ?_
      have k2 := sk_le (tp := tp) (t := t) (a := a1) (by omega)
      by_cases hc2 : sk tp t a1 < t ∧ tp (sk tp t a1) = 44
      · have hl2 := hc2.1
        refine s_X3_44 dX3_readPiece_64 (cn_X3_readSign_1 (hp_nt (by decide) hT) hg ht (a := a1) (by omega) _ hc2) (hp_s _ _ _) ⟨lb rfl, lb rfl, lb rfl, lb rfl⟩ ?_
        refine xt_if_ne 72 dX3_readPiece_67 rfl (fun _ => ?_) (fun q => absurd q (by decide))
        refine al0 dX3_readPiece_72 ?_
        refine il4 dX3_readPiece_73 ?_
        have l2 := rNum_le (tp := tp) (t := t) (a := sk tp t (a1) + 1) (by omega)
        rcases e2 : rNum tp t (sk tp t (a1) + 1) with ⟨_ | v2, a2⟩
        · rw [e2] at l2
          refine sP_X3_56 dX3_readPiece_75 (cn_X3_readNumber (hp_nt (by decide) hT) hg ht (by omega) (hp_s _ _ _) 1 (by decide) _ e2) (hp_s _ _ _) ⟨lb rfl, lb rfl, lb rfl, lb rfl⟩ ?_
          rintro _ ⟨f2, rfl, hv2⟩
          rw [hp_hp]
          refine xt_eqv 0 rfl ?_
          obtain rfl := hres.symm.trans (rPc_2 hk e1 ((rCm_1 hc2).trans e2))
          refine xt_if_ne 83 dX3_readPiece_78 rfl (fun q => absurd (by decide) q) (fun _ => ?_)
          refine xt_iconst (0) dX3_readPiece_81 rfl ?_
          exact xt_zret dX3_readPiece_82 rfl (Or.inl rfl) (lb rfl) (lb rfl) ⟨rfl, ⟨hp_s _ _ _, ⟨_, hp_nt (by decide) (hp_s _ _ _)⟩, fun j j1 j2 j3 => by rw [hp_n _ _ j1, hp_n _ _ j2], ⟨_, hp_nt (by omega) (hp_nt (by omega) hpk)⟩, fun _ _ _ _ hv => nomatch hv⟩, rfl⟩
        · rw [e2] at l2
          refine sP_X3_56 dX3_readPiece_75 (cn_X3_readNumber (hp_nt (by decide) hT) hg ht (by omega) (hp_s _ _ _) 1 (by decide) _ e2) (hp_s _ _ _) ⟨lb rfl, lb rfl, lb rfl, lb rfl⟩ ?_
          rintro _ ⟨f2, rfl, hv2⟩
          rw [hp_hp]
          refine xt_eqv 1 rfl ?_
          obtain rfl : f2 = upd (upd f 0 v1) 1 v2 := hv2 _ rfl
          refine xt_if_ne 83 dX3_readPiece_78 rfl (fun _ => ?_) (fun q => absurd q (by decide))
          refine inc4 (2) dX3_readPiece_83 rfl (by decide) rfl ?_
          refine xt_goto 50 dX3_readPiece_86 rfl ?_
          refine il4 dX3_readPiece_50 ?_
          refine xt_iconst (3) dX3_readPiece_52 rfl ?_
          refine xt_icmp_ge 89 dX3_readPiece_53 rfl (fun q => absurd q (by decide)) (fun _ => ?_)
          refine il4 dX3_readPiece_56 ?_
          refine xt_if_le 72 dX3_readPiece_58 rfl (fun q => absurd q (by decide)) (fun _ => ?_)
          refine al0 dX3_readPiece_61 ?_
          refine xt_bipush (44) dX3_readPiece_62 rfl ?_
          have k3 := sk_le (tp := tp) (t := t) (a := a2) (by omega)
          by_cases hc3 : sk tp t a2 < t ∧ tp (sk tp t a2) = 44
          · have hl3 := hc3.1
            refine s_X3_44 dX3_readPiece_64 (cn_X3_readSign_1 (hp_nt (by decide) hT) hg ht (a := a2) (by omega) _ hc3) (hp_s _ _ _) ⟨lb rfl, lb rfl, lb rfl, lb rfl⟩ ?_
            refine xt_if_ne 72 dX3_readPiece_67 rfl (fun _ => ?_) (fun q => absurd q (by decide))
            refine al0 dX3_readPiece_72 ?_
            refine il4 dX3_readPiece_73 ?_
            have l3 := rNum_le (tp := tp) (t := t) (a := sk tp t (a2) + 1) (by omega)
            rcases e3 : rNum tp t (sk tp t (a2) + 1) with ⟨_ | v3, a3⟩
            · rw [e3] at l3
              refine sP_X3_56 dX3_readPiece_75 (cn_X3_readNumber (hp_nt (by decide) hT) hg ht (by omega) (hp_s _ _ _) 2 (by decide) _ e3) (hp_s _ _ _) ⟨lb rfl, lb rfl, lb rfl, lb rfl⟩ ?_
              rintro _ ⟨f3, rfl, hv3⟩
              rw [hp_hp]
              refine xt_eqv 0 rfl ?_
              obtain rfl := hres.symm.trans (rPc_3 hk e1 ((rCm_1 hc2).trans e2) ((rCm_1 hc3).trans e3))
              refine xt_if_ne 83 dX3_readPiece_78 rfl (fun q => absurd (by decide) q) (fun _ => ?_)
              refine xt_iconst (0) dX3_readPiece_81 rfl ?_
              exact xt_zret dX3_readPiece_82 rfl (Or.inl rfl) (lb rfl) (lb rfl) ⟨rfl, ⟨hp_s _ _ _, ⟨_, hp_nt (by decide) (hp_s _ _ _)⟩, fun j j1 j2 j3 => by rw [hp_n _ _ j1, hp_n _ _ j2], ⟨_, hp_nt (by omega) (hp_nt (by omega) hpk)⟩, fun _ _ _ _ hv => nomatch hv⟩, rfl⟩
            · rw [e3] at l3
              refine sP_X3_56 dX3_readPiece_75 (cn_X3_readNumber (hp_nt (by decide) hT) hg ht (by omega) (hp_s _ _ _) 2 (by decide) _ e3) (hp_s _ _ _) ⟨lb rfl, lb rfl, lb rfl, lb rfl⟩ ?_
              rintro _ ⟨f3, rfl, hv3⟩
              rw [hp_hp]
              refine xt_eqv 1 rfl ?_
              obtain rfl : f3 = upd (upd (upd f 0 v1) 1 v2) 2 v3 := hv3 _ rfl
              refine xt_if_ne 83 dX3_readPiece_78 rfl (fun _ => ?_) (fun q => absurd q (by decide))
              refine inc4 (3) dX3_readPiece_83 rfl (by decide) rfl ?_
              refine xt_goto 50 dX3_readPiece_86 rfl ?_
              refine il4 dX3_readPiece_50 ?_
              refine xt_iconst (3) dX3_readPiece_52 rfl ?_
              refine xt_icmp_ge 89 dX3_readPiece_53 rfl (fun _ => ?_) (fun q => absurd (by decide) q)
              refine il2 dX3_readPiece_89 ?_
              refine al0 dX3_readPiece_90 ?_
              refine g_X3_28 dX3_readPiece_91 (hp_s _ _ _) ?_
              refine xt_iconst (0) dX3_readPiece_94 rfl ?_
              refine xt_iald (0) (hp_nt (by omega) (hp_s _ _ _)) (by omega) rfl (by decide) dX3_readPiece_95 ?_
              refine xt_eqv (v1) (by rw [upd_o (by decide), upd_o (by decide), upd_s]) ?_
              refine al0 dX3_readPiece_96 ?_
              refine g_X3_28 dX3_readPiece_97 (hp_s _ _ _) ?_
              refine xt_iconst (1) dX3_readPiece_100 rfl ?_
              refine xt_iald (1) (hp_nt (by omega) (hp_s _ _ _)) (by omega) rfl (by decide) dX3_readPiece_101 ?_
              refine xt_eqv (v2) (by rw [upd_o (by decide), upd_s]) ?_
              refine al0 dX3_readPiece_102 ?_
              refine g_X3_28 dX3_readPiece_103 (hp_s _ _ _) ?_
              refine xt_iconst (2) dX3_readPiece_106 rfl ?_
              refine xt_iald (2) (hp_nt (by omega) (hp_s _ _ _)) (by omega) rfl (by decide) dX3_readPiece_107 ?_
              refine xt_eqv (v3) upd_s ?_
              refine s_X3_59 dX3_readPiece_108 (cn_X7_fits _ _ _ _) ⟨lb rfl, lb rfl, lb rfl, lb rfl⟩ ?_
              refine xt_if_ne 121 dX3_readPiece_111 rfl (fun c111 => ?_) (fun c111 => ?_)
              · obtain rfl := hres.symm.trans (rPc_5 hk e1 ((rCm_1 hc2).trans e2) ((rCm_1 hc3).trans e3) (of_fl1 c111))
                refine al0 dX3_readPiece_121 ?_
                refine g_X3_21 dX3_readPiece_122 (hp_s _ _ _) ?_
                refine il1 dX3_readPiece_125 ?_
                refine xt_aald3 (k) (hp_nt (by omega) (hp_nt (by omega) h121)) (by omega) rfl (by decide) rfl dX3_readPiece_126 ?_
                refine il2 dX3_readPiece_127 ?_
                refine al0 dX3_readPiece_128 ?_
                refine g_X3_28 dX3_readPiece_129 (hp_s _ _ _) ?_
                refine xt_iconst (0) dX3_readPiece_132 rfl ?_
                refine xt_iald (0) (hp_nt (by omega) (hp_s _ _ _)) (by omega) rfl (by decide) dX3_readPiece_133 ?_
                refine xt_eqv (v1) (by rw [upd_o (by decide), upd_o (by decide), upd_s]) ?_
                refine al0 dX3_readPiece_134 ?_
                refine g_X3_28 dX3_readPiece_135 (hp_s _ _ _) ?_
                refine xt_iconst (1) dX3_readPiece_138 rfl ?_
                refine xt_iald (1) (hp_nt (by omega) (hp_s _ _ _)) (by omega) rfl (by decide) dX3_readPiece_139 ?_
                refine xt_eqv (v2) (by rw [upd_o (by decide), upd_s]) ?_
                refine al0 dX3_readPiece_140 ?_
                refine g_X3_28 dX3_readPiece_141 (hp_s _ _ _) ?_
                refine xt_iconst (2) dX3_readPiece_144 rfl ?_
                refine xt_iald (2) (hp_nt (by omega) (hp_s _ _ _)) (by omega) rfl (by decide) dX3_readPiece_145 ?_
                refine xt_eqv (v3) upd_s ?_
                refine s_X3_63 dX3_readPiece_146 (cn_X2_tell (hp_nt (by omega) (hp_nt (by omega) hpk)) _ _ _ _) (hp_nt (by omega) (hp_nt (by omega) hpk)) ⟨lb rfl, lb rfl, lb rfl, lb rfl⟩ ?_
                refine xt_iconst (1) dX3_readPiece_149 rfl ?_
                exact xt_zret dX3_readPiece_150 rfl (Or.inr rfl) (lb rfl) (lb rfl) ⟨rfl, ⟨hp_nt (by omega) (hp_s _ _ _), ⟨_, hp_nt (by omega) (hp_nt (by decide) (hp_s _ _ _))⟩, fun j j1 j2 j3 => by rw [hp_n _ _ j3, hp_n _ _ j1, hp_n _ _ j2], ⟨_, hp_s _ _ _⟩, fun _ _ _ _ hv => by cases hv; exact hp_s _ _ _⟩, rfl⟩
              · obtain rfl := hres.symm.trans (rPc_4 hk e1 ((rCm_1 hc2).trans e2) ((rCm_1 hc3).trans e3) (of_fl0 c111))
                refine al0 dX3_readPiece_114 ?_
                refine il3 dX3_readPiece_115 ?_
                refine p_X3_32 dX3_readPiece_116 (hp_s _ _ _) ?_
                refine xt_eq (hp_hp _ _ _ _) ?_
                refine xt_iconst (0) dX3_readPiece_119 rfl ?_
                exact xt_zret dX3_readPiece_120 rfl (Or.inl rfl) (lb rfl) (lb rfl) ⟨rfl, ⟨hp_s _ _ _, ⟨_, hp_nt (by decide) (hp_s _ _ _)⟩, fun j j1 j2 j3 => by rw [hp_n _ _ j1, hp_n _ _ j2], ⟨_, hp_nt (by omega) (hp_nt (by omega) hpk)⟩, fun _ _ _ _ hv => nomatch hv⟩, rfl⟩
          · obtain rfl := hres.symm.trans (rPc_3 hk e1 ((rCm_1 hc2).trans e2) (rCm_0 hc3))
            refine s_X3_44 dX3_readPiece_64 (cn_X3_readSign_0 (hp_nt (by decide) hT) hg ht (a := a2) (by omega) _ hc3) (hp_s _ _ _) ⟨lb rfl, lb rfl, lb rfl, lb rfl⟩ ?_
            refine xt_if_ne 72 dX3_readPiece_67 rfl (fun q => absurd (by decide) q) (fun _ => ?_)
            refine xt_iconst (0) dX3_readPiece_70 rfl ?_
            exact xt_zret dX3_readPiece_71 rfl (Or.inl rfl) (lb rfl) (lb rfl) ⟨rfl, ⟨hp_s _ _ _, ⟨_, hp_nt (by decide) (hp_s _ _ _)⟩, fun j j1 j2 j3 => by rw [hp_n _ _ j1, hp_n _ _ j2], ⟨_, hp_nt (by omega) (hp_nt (by omega) hpk)⟩, fun _ _ _ _ hv => nomatch hv⟩, rfl⟩
      · obtain rfl := hres.symm.trans (rPc_2 hk e1 (rCm_0 hc2))
        refine s_X3_44 dX3_readPiece_64 (cn_X3_readSign_0 (hp_nt (by decide) hT) hg ht (a := a1) (by omega) _ hc2) (hp_s _ _ _) ⟨lb rfl, lb rfl, lb rfl, lb rfl⟩ ?_
        refine xt_if_ne 72 dX3_readPiece_67 rfl (fun q => absurd (by decide) q) (fun _ => ?_)
        refine xt_iconst (0) dX3_readPiece_70 rfl ?_
        exact xt_zret dX3_readPiece_71 rfl (Or.inl rfl) (lb rfl) (lb rfl) ⟨rfl, ⟨hp_s _ _ _, ⟨_, hp_nt (by decide) (hp_s _ _ _)⟩, fun j j1 j2 j3 => by rw [hp_n _ _ j1, hp_n _ _ j2], ⟨_, hp_nt (by omega) (hp_nt (by omega) hpk)⟩, fun _ _ _ _ hv => nomatch hv⟩, rfl⟩
  · obtain rfl := hres.symm.trans (rPc_k hk)
    by_cases he : t ≤ sk tp t a
    · refine al0 dX3_readPiece_0 ?_
      refine s_X3_36 dX3_readPiece_1 (cn_X3_atEnd hT hg ht (a := a) ha) (hp_s _ _ _) ⟨lb rfl, lb rfl, lb rfl, lb rfl⟩ ?_
      refine xt_eqv 1 (if_pos he) ?_
      refine xt_if_eq 11 dX3_readPiece_4 rfl (fun q => absurd q (by decide)) (fun _ => ?_)
      refine xt_iconst (-1) dX3_readPiece_7 rfl ?_
      refine xt_goto 25 dX3_readPiece_8 rfl ?_
      refine is2 dX3_readPiece_25 (by decide) rfl ?_
      refine il2 dX3_readPiece_26 ?_
      refine xt_if_ge 32 dX3_readPiece_27 rfl (fun q => absurd q (by decide)) (fun _ => ?_)
      refine xt_iconst (0) dX3_readPiece_30 rfl ?_
      exact xt_zret dX3_readPiece_31 rfl (Or.inl rfl) (lb rfl) (lb rfl) ⟨rfl, ⟨hp_s _ _ _, ⟨f, hp_nt (by decide) h122⟩, fun j j1 j2 j3 => hp_n _ _ j1, ⟨_, hp_nt (by omega) hpk⟩, fun _ _ _ _ hv => nomatch hv⟩, rfl⟩
    · refine al0 dX3_readPiece_0 ?_
      refine s_X3_36 dX3_readPiece_1 (cn_X3_atEnd hT hg ht (a := a) ha) (hp_s _ _ _) ⟨lb rfl, lb rfl, lb rfl, lb rfl⟩ ?_
      refine xt_eqv 0 (if_neg he) ?_
      refine xt_if_eq 11 dX3_readPiece_4 rfl (fun _ => ?_) (fun q => absurd (by decide) q)
      refine xt_ldcS dX3_readPiece_11 ?_
      refine al0 dX3_readPiece_13 ?_
      refine g_X3_9 dX3_readPiece_14 (hp_s _ _ _) ?_
      refine al0 dX3_readPiece_17 ?_
      refine g_X3_32 dX3_readPiece_18 (hp_s _ _ _) ?_
      refine xt_cald (sk tp t (a)) (hp_nt (by omega) hT) (by omega) rfl (by decide) dX3_readPiece_21 ?_
      refine xt_eqv (tp (sk tp t a)) (hg _ (by omega)) ?_
      refine xt_callVR (as := [.int (tp (sk tp t a))]) (cs_indexOf (ho _ (by omega)) l G cy bs) rfl sjc_J0_indexOf_0f7a4 sj_i0 sjm_J0_indexOf_0f7a4 sjl_J0_indexOf_0f7a4 mb300 sjd_J0_indexOf_0f7a4 ⟨lb rfl, lb rfl⟩ ⟨lb rfl, lb rfl⟩ (lb rfl) rfl dX3_readPiece_22 (ki_k ?_)
      refine xt_eqv (kdV (hV tp t a)) (by unfold hV; rw [if_neg (by omega)]) ?_
      refine is2 dX3_readPiece_25 (by decide) rfl ?_
      refine il2 dX3_readPiece_26 ?_
      refine xt_if_ge 32 dX3_readPiece_27 rfl (fun q => absurd q hk) (fun _ => ?_)
      refine xt_iconst (0) dX3_readPiece_30 rfl ?_
      exact xt_zret dX3_readPiece_31 rfl (Or.inl rfl) (lb rfl) (lb rfl) ⟨rfl, ⟨hp_s _ _ _, ⟨f, hp_nt (by decide) h122⟩, fun j j1 j2 j3 => hp_n _ _ j1, ⟨_, hp_nt (by omega) hpk⟩, fun _ _ _ _ hv => nomatch hv⟩, rfl⟩
set_option maxHeartbeats 400000 in
set_option maxRecDepth 100000 in
theorem cn_X3_readPlan {h : ax_H} {n : Nat} {t : Nat} {fo aT : Int32} {g tp f : Nat → Int32} (h119 : h 119 = some (eRd (nI t) fo aT)) (hT : h 120 = some (ax_B 140 g)) (hg : ∀ j, j < t → g j = tp j) (ht : t ≤ 140) (h121 : h 121 = some (ax_R 3 12 (fun k => some (123 + k)))) (h122 : h 122 = some (ax_I 3 f)) (ho : TPo tp t) (hpc : ∀ i, i < 12 → ∃ q, h (123 + i) = some (ePc q)) (res : rRs) (hres : rPl tp t = res) : ax_C yX3_readPlan cX3_readPlan 2 (some .boolean) 9 0 0 [.ref 119] h n (kE (if res.1.isSome then 1 else 0) (fun h2 => ∃ fo2, h2 119 = some (eRd (nI t) fo2 (nI res.2.1)) ∧ (∃ f2, h2 122 = some (ax_I 3 f2)) ∧ (∀ j, (j < 119 ∨ j = 120 ∨ j = 121 ∨ 135 ≤ j) → h2 j = h j) ∧ (∀ i, i < 12 → ∃ q, h2 (123 + i) = some (ePc q)) ∧ ∀ N, res.1 = some N → fo2 = nI N ∧ ∀ i, i < N → h2 (123 + i) = some (ePc (tl (res.2.2 (4 * i)) (res.2.2 (4 * i + 1)) (res.2.2 (4 * i + 2)) (res.2.2 (4 * i + 3))))) n) := by
  refine ax_C.go RX3 "readPlan" [some (.ref 119), none] rfl rfl pn_X3 (lb rfl) rfl (fun l G cy bs => ?_)
  have hs0 := sk_le (tp := tp) (t := t) (a := 0) (by omega)
  have lp : ∀ (d k a : Nat) (q : Nat → Int32) (h1 : ax_H), k + d = 12 → k < 12 → a ≤ t → h1 119 = some (eRd (nI t) (nI k) (nI a)) → (∃ f2, h1 122 = some (ax_I 3 f2)) → (∀ j, (j < 119 ∨ j = 120 ∨ j = 121 ∨ 135 ≤ j) → h1 j = h j) → (∀ i, i < 12 → ∃ q, h1 (123 + i) = some (ePc q)) → (∀ i, i < k → h1 (123 + i) = some (ePc (tl (q (4 * i)) (q (4 * i + 1)) (q (4 * i + 2)) (q (4 * i + 3))))) → rLp tp t d k a q = res → ax_T l G cy bs (ax_rm 9 0 0) RX3 "readPlan" cX3_readPlan 2 (some .boolean) (kE (if res.1.isSome then 1 else 0) (fun h2 => ∃ fo2, h2 119 = some (eRd (nI t) fo2 (nI res.2.1)) ∧ (∃ f2, h2 122 = some (ax_I 3 f2)) ∧ (∀ j, (j < 119 ∨ j = 120 ∨ j = 121 ∨ 135 ≤ j) → h2 j = h j) ∧ (∀ i, i < 12 → ∃ q, h2 (123 + i) = some (ePc q)) ∧ ∀ N, res.1 = some N → fo2 = nI N ∧ ∀ i, i < N → h2 (123 + i) = some (ePc (tl (res.2.2 (4 * i)) (res.2.2 (4 * i + 1)) (res.2.2 (4 * i + 2)) (res.2.2 (4 * i + 3))))) n) 0 0 21 [some (.ref 119), some (.int (nI k))] [] h1 n 0 0 := by
    intro d
    induction d with
    | zero => intro k a q h1 hk hk2; omega
    | succ d ih =>
      intro k a q h1 hk hk2 ha h119 h122 hfr hpc hq hres
      obtain ⟨f, h122⟩ := h122
      obtain ⟨q0, hpk⟩ := hpc k hk2
      have hT1 : h1 120 = some (ax_B 140 g) := by rw [hfr _ (by omega)]; exact hT
      have h121b : h1 121 = some (ax_R 3 12 (fun k => some (123 + k))) := by rw [hfr _ (by omega)]; exact h121
      rcases rPc_cs ho ha with ⟨a1, e1, l1⟩ | ⟨kd, x, y, z, a1, e1, l1, -⟩
      · obtain rfl := hres.symm.trans (rLp_n e1)
        refine il1 dX3_readPlan_21 ?_
        refine xt_bipush (12) dX3_readPlan_22 rfl ?_
        refine xt_icmp_ge 79 dX3_readPlan_24 rfl (fun q => absurd q (nI_ge (b := 12) (by omega) (by decide))) (fun _ => ?_)
        refine al0 dX3_readPlan_27 ?_
        refine il1 dX3_readPlan_28 ?_
        refine xt_heq (hp_id _ h119).symm ?_
        refine sP_X3_40 dX3_readPlan_29 (cn_X3_readPiece hT1 hg ht ha h121b h122 ho k (by omega) hpk _ e1) (hp_s _ _ _) ⟨lb rfl, lb rfl, lb rfl, lb rfl⟩ ?_
        rintro h2 ⟨b119, ⟨f2, b122⟩, bfr, bpk, bv⟩
        have bfr2 : ∀ j, (j < 119 ∨ j = 120 ∨ j = 121 ∨ 135 ≤ j) → h2 j = h j := fun j hj => (bfr j (by omega) (by omega) (by omega)).trans (hfr j hj)
        have bpc : ∀ i, i < 12 → ∃ q, h2 (123 + i) = some (ePc q) := by
          intro i hi
          by_cases hik : i = k
          · subst hik; exact bpk
          · obtain ⟨q1, e⟩ := hpc i hi; exact ⟨q1, by rw [bfr _ (by omega) (by omega) (by omega)]; exact e⟩
        refine xt_eqv 0 rfl ?_
        refine xt_if_ne 37 dX3_readPlan_32 rfl (fun q => absurd (by decide) q) (fun _ => ?_)
        refine xt_iconst (0) dX3_readPlan_35 rfl ?_
        exact xt_zret dX3_readPlan_36 rfl (Or.inl rfl) (lb rfl) (lb rfl) ⟨rfl, ⟨_, b119, ⟨_, b122⟩, bfr2, bpc, fun N hN => nomatch hN⟩, rfl⟩
      · have hs1 := sk_le (tp := tp) (t := t) (a := a1) l1
        refine il1 dX3_readPlan_21 ?_
        refine xt_bipush (12) dX3_readPlan_22 rfl ?_
        refine xt_icmp_ge 79 dX3_readPlan_24 rfl (fun q => absurd q (nI_ge (b := 12) (by omega) (by decide))) (fun _ => ?_)
        refine al0 dX3_readPlan_27 ?_
        refine il1 dX3_readPlan_28 ?_
        refine xt_heq (hp_id _ h119).symm ?_
        refine sP_X3_40 dX3_readPlan_29 (cn_X3_readPiece hT1 hg ht ha h121b h122 ho k (by omega) hpk _ e1) (hp_s _ _ _) ⟨lb rfl, lb rfl, lb rfl, lb rfl⟩ ?_
        rintro h2 ⟨b119, ⟨f2, b122⟩, bfr, bpk, bv⟩
        have bfr2 : ∀ j, (j < 119 ∨ j = 120 ∨ j = 121 ∨ 135 ≤ j) → h2 j = h j := fun j hj => (bfr j (by omega) (by omega) (by omega)).trans (hfr j hj)
        have bpc : ∀ i, i < 12 → ∃ q, h2 (123 + i) = some (ePc q) := by
          intro i hi
          by_cases hik : i = k
          · subst hik; exact bpk
          · obtain ⟨q1, e⟩ := hpc i hi; exact ⟨q1, by rw [bfr _ (by omega) (by omega) (by omega)]; exact e⟩
        refine xt_eqv 1 rfl ?_
        refine xt_if_ne 37 dX3_readPlan_32 rfl (fun _ => ?_) (fun q => absurd q (by decide))
        refine al0 dX3_readPlan_37 ?_
        refine il1 dX3_readPlan_38 ?_
        refine xt_iconst (1) dX3_readPlan_39 rfl ?_
        refine xt_iadd dX3_readPlan_40 ?_
        refine xt_eqv (nI (k + 1)) ((ne_add (a := k) (b := 1) rfl rfl).trans (congrArg nI (by omega))) ?_
        refine p_X3_25 dX3_readPlan_41 b119 ?_
        refine al0 dX3_readPlan_44 ?_
        have bq : ∀ i, i < k + 1 → h2 (123 + i) = some (ePc (tl (lay q (4 * k) kd x y z (4 * i)) (lay q (4 * k) kd x y z (4 * i + 1)) (lay q (4 * k) kd x y z (4 * i + 2)) (lay q (4 * k) kd x y z (4 * i + 3)))) := by
          intro i hi
          rcases (show i < k ∨ i = k by omega) with z0 | rfl
          · rw [ly_lo (by omega), ly_lo (by omega), ly_lo (by omega), ly_lo (by omega), bfr _ (by omega) (by omega) (by omega)]; exact hq i z0
          · rw [lay_c0, lay_c1, lay_c2, lay_c3]; exact bv _ _ _ _ rfl
        by_cases he : t ≤ sk tp t a1
        · obtain rfl := hres.symm.trans (rLp_e e1 he)
          refine s_X3_36 dX3_readPlan_45 (cn_X3_atEnd (show h2 120 = some (ax_B 140 g) by rw [bfr2 _ (by omega)]; exact hT) hg ht (a := a1) l1) (hp_s _ _ _) ⟨lb rfl, lb rfl, lb rfl, lb rfl⟩ ?_
          refine xt_eqv 1 (if_pos he) ?_
          refine xt_if_eq 53 dX3_readPlan_48 rfl (fun q => absurd q (by decide)) (fun _ => ?_)
          refine xt_iconst (1) dX3_readPlan_51 rfl ?_
          exact xt_zret dX3_readPlan_52 rfl (Or.inr rfl) (lb rfl) (lb rfl) ⟨rfl, ⟨_, hp_s _ _ _, ⟨_, hp_nt (by decide) b122⟩, fun j hj => by rw [hp_n _ _ (by omega)]; exact bfr2 j hj, fun i hi => by obtain ⟨q1, e⟩ := bpc i hi; exact ⟨q1, hp_nt (by omega) e⟩, fun N hN => by cases hN; exact ⟨rfl, fun i hi => hp_nt (by omega) (bq i hi)⟩⟩, rfl⟩
        · by_cases hc : tp (sk tp t a1) = 59 ∧ k + 1 < 12
          · obtain ⟨hc1, hc2⟩ := hc
            refine s_X3_36 dX3_readPlan_45 (cn_X3_atEnd (show h2 120 = some (ax_B 140 g) by rw [bfr2 _ (by omega)]; exact hT) hg ht (a := a1) l1) (hp_s _ _ _) ⟨lb rfl, lb rfl, lb rfl, lb rfl⟩ ?_
            refine xt_eqv 0 (if_neg he) ?_
            refine xt_if_eq 53 dX3_readPlan_48 rfl (fun _ => ?_) (fun q => absurd (by decide) q)
            refine al0 dX3_readPlan_53 ?_
            refine g_X3_25 dX3_readPlan_54 (hp_s _ _ _) ?_
            refine xt_bipush (12) dX3_readPlan_57 rfl ?_
            refine xt_icmp_eq 71 dX3_readPlan_59 rfl (fun q => absurd q (fun q => absurd ((nI_eq (by omega) (by decide)).mp (q : nI (k + 1) = nI 12)) (Nat.ne_of_lt hc2))) (fun _ => ?_)
            refine al0 dX3_readPlan_62 ?_
            refine xt_bipush (59) dX3_readPlan_63 rfl ?_
            refine s_X3_44 dX3_readPlan_65 (cn_X3_readSign_1 (show h2 120 = some (ax_B 140 g) by rw [bfr2 _ (by omega)]; exact hT) hg ht (a := sk tp t a1) hs1 _ (by rw [sk_id l1]; exact ⟨by omega, hc1⟩)) (hp_s _ _ _) ⟨lb rfl, lb rfl, lb rfl, lb rfl⟩ ?_
            rw [sk_id l1]
            refine xt_if_ne 73 dX3_readPlan_68 rfl (fun _ => ?_) (fun q => absurd q (by decide))
            refine inc1 (nI (k + 1)) dX3_readPlan_73 (nI_1 _) (by decide) rfl ?_
            refine xt_goto 21 dX3_readPlan_76 rfl ?_
            exact ih (k + 1) _ _ _ (by omega) hc2 (by omega) (hp_s _ _ _) ⟨_, hp_nt (by decide) b122⟩ (fun j hj => by rw [hp_n _ _ (by omega)]; exact bfr2 j hj) (fun i hi => by obtain ⟨q1, e⟩ := bpc i hi; exact ⟨q1, hp_nt (by omega) e⟩) (fun i hi => hp_nt (by omega) (bq i hi)) ((rLp_s e1 he ⟨hc1, hc2⟩).symm.trans hres)
          · obtain rfl := hres.symm.trans (rLp_f e1 he hc)
            by_cases h12 : k + 1 = 12
            · skip
              refine s_X3_36 dX3_readPlan_45 (cn_X3_atEnd (show h2 120 = some (ax_B 140 g) by rw [bfr2 _ (by omega)]; exact hT) hg ht (a := a1) l1) (hp_s _ _ _) ⟨lb rfl, lb rfl, lb rfl, lb rfl⟩ ?_
              refine xt_eqv 0 (if_neg he) ?_
              refine xt_if_eq 53 dX3_readPlan_48 rfl (fun _ => ?_) (fun q => absurd (by decide) q)
              refine al0 dX3_readPlan_53 ?_
              refine g_X3_25 dX3_readPlan_54 (hp_s _ _ _) ?_
              refine xt_bipush (12) dX3_readPlan_57 rfl ?_
              refine xt_icmp_eq 71 dX3_readPlan_59 rfl (fun _ => ?_) (fun q => absurd (show nI (k + 1) = nI 12 by rw [h12]) q)
              refine xt_iconst (0) dX3_readPlan_71 rfl ?_
              exact xt_zret dX3_readPlan_72 rfl (Or.inl rfl) (lb rfl) (lb rfl) ⟨rfl, ⟨_, hp_s _ _ _, ⟨_, hp_nt (by decide) b122⟩, fun j hj => by rw [hp_n _ _ (by omega)]; exact bfr2 j hj, fun i hi => by obtain ⟨q1, e⟩ := bpc i hi; exact ⟨q1, hp_nt (by omega) e⟩, fun N hN => nomatch hN⟩, rfl⟩
            · skip
              refine s_X3_36 dX3_readPlan_45 (cn_X3_atEnd (show h2 120 = some (ax_B 140 g) by rw [bfr2 _ (by omega)]; exact hT) hg ht (a := a1) l1) (hp_s _ _ _) ⟨lb rfl, lb rfl, lb rfl, lb rfl⟩ ?_
              refine xt_eqv 0 (if_neg he) ?_
              refine xt_if_eq 53 dX3_readPlan_48 rfl (fun _ => ?_) (fun q => absurd (by decide) q)
              refine al0 dX3_readPlan_53 ?_
              refine g_X3_25 dX3_readPlan_54 (hp_s _ _ _) ?_
              refine xt_bipush (12) dX3_readPlan_57 rfl ?_
              refine xt_icmp_eq 71 dX3_readPlan_59 rfl (fun q => absurd q (fun q => absurd ((nI_eq (by omega) (by decide)).mp (q : nI (k + 1) = nI 12)) h12)) (fun _ => ?_)
              refine al0 dX3_readPlan_62 ?_
              refine xt_bipush (59) dX3_readPlan_63 rfl ?_
              refine s_X3_44 dX3_readPlan_65 (cn_X3_readSign_0 (show h2 120 = some (ax_B 140 g) by rw [bfr2 _ (by omega)]; exact hT) hg ht (a := sk tp t a1) hs1 _ (by rw [sk_id l1]; exact fun q => hc ⟨q.2, by omega⟩)) (hp_s _ _ _) ⟨lb rfl, lb rfl, lb rfl, lb rfl⟩ ?_
              rw [sk_id l1]
              refine xt_if_ne 73 dX3_readPlan_68 rfl (fun q => absurd (by decide) q) (fun _ => ?_)
              refine xt_iconst (0) dX3_readPlan_71 rfl ?_
              exact xt_zret dX3_readPlan_72 rfl (Or.inl rfl) (lb rfl) (lb rfl) ⟨rfl, ⟨_, hp_s _ _ _, ⟨_, hp_nt (by decide) b122⟩, fun j hj => by rw [hp_n _ _ (by omega)]; exact bfr2 j hj, fun i hi => by obtain ⟨q1, e⟩ := bpc i hi; exact ⟨q1, hp_nt (by omega) e⟩, fun N hN => nomatch hN⟩, rfl⟩
  refine al0 dX3_readPlan_0 ?_
  refine xt_iconst (0) dX3_readPlan_1 rfl ?_
  refine p_X3_32 dX3_readPlan_2 h119 ?_
  refine al0 dX3_readPlan_5 ?_
  refine xt_iconst (0) dX3_readPlan_6 rfl ?_
  refine p_X3_25 dX3_readPlan_7 (hp_s _ _ _) ?_
  refine xt_eq (hp_hp _ _ _ _) ?_
  refine al0 dX3_readPlan_10 ?_
  by_cases he : t ≤ sk tp t 0
  · have e : rPl tp t = (some 0, sk tp t 0, fun _ => 0) := by unfold rPl; rw [if_pos he]
    obtain rfl := hres.symm.trans e
    refine s_X3_36 dX3_readPlan_11 (cn_X3_atEnd hT hg ht (a := 0) (by omega)) (hp_s _ _ _) ⟨lb rfl, lb rfl, lb rfl, lb rfl⟩ ?_
    refine xt_eqv 1 (if_pos he) ?_
    refine xt_if_eq 19 dX3_readPlan_14 rfl (fun q => absurd q (by decide)) (fun _ => ?_)
    refine xt_iconst (1) dX3_readPlan_17 rfl ?_
    exact xt_zret dX3_readPlan_18 rfl (Or.inr rfl) (lb rfl) (lb rfl) ⟨rfl, ⟨_, hp_s _ _ _, ⟨_, hp_nt (by decide) h122⟩, fun j hj => hp_n _ _ (by omega), fun i hi => by obtain ⟨q1, e⟩ := hpc i hi; exact ⟨q1, hp_nt (by omega) e⟩, fun N hN => by cases hN; exact ⟨rfl, fun i hi => by omega⟩⟩, rfl⟩
  · have e : rPl tp t = rLp tp t 12 0 (sk tp t 0) (fun _ => 0) := by unfold rPl; rw [if_neg he]
    refine s_X3_36 dX3_readPlan_11 (cn_X3_atEnd hT hg ht (a := 0) (by omega)) (hp_s _ _ _) ⟨lb rfl, lb rfl, lb rfl, lb rfl⟩ ?_
    refine xt_eqv 0 (if_neg he) ?_
    refine xt_if_eq 19 dX3_readPlan_14 rfl (fun _ => ?_) (fun q => absurd (by decide) q)
    refine xt_iconst (0) dX3_readPlan_19 rfl ?_
    refine is1 dX3_readPlan_20 (by decide) rfl ?_
    exact lp 12 0 _ _ _ rfl (by omega) hs0 (hp_s _ _ _) ⟨_, hp_nt (by decide) h122⟩ (fun j hj => hp_n _ _ (by omega)) (fun i hi => by obtain ⟨q1, e⟩ := hpc i hi; exact ⟨q1, hp_nt (by omega) e⟩) (fun i hi => by omega) (e.symm.trans hres)
