theorem okP_iff {k a b c : Int32} : okP k a b c ↔ (0 ≤ k.toInt ∧ k.toInt ≤ 4) ∧ ((2 < k.toInt ∧ (-10 ≤ a.toInt ∧ a.toInt ≤ 10) ∧ (-10 ≤ b.toInt ∧ b.toInt ≤ 10) ∧ ¬ (a.toInt = 0 ∧ b.toInt = 0) ∧ (1 ≤ c.toInt ∧ c.toInt ≤ 99)) ∨ (k.toInt ≤ 2 ∧ (-15 ≤ a.toInt ∧ a.toInt ≤ 15) ∧ (-15 ≤ b.toInt ∧ b.toInt ≤ 15) ∧ (-15 ≤ c.toInt ∧ c.toInt ≤ 15) ∧ ¬ (a.toInt = 0 ∧ b.toInt = 0 ∧ c.toInt = 0))) := by
  refine ⟨okP_int, fun h => ?_⟩
  unfold okP
  simp only [fb_le, fb_lt, fb_eq, ti_0, ti_1, ti_2, ti_4, ti_10, ti_15, ti_99, ti_m10, ti_m15]
  obtain ⟨h1, h2⟩ := h
  refine ⟨h1, ?_⟩
  by_cases hk : 2 < k.toInt
  · rw [if_pos hk]
    rcases h2 with q | q
    · exact q.2
    · omega
  · rw [if_neg hk]
    rcases h2 with q | q
    · omega
    · exact q.2
set_option maxHeartbeats 400000 in
set_option maxRecDepth 100000 in
theorem cn_X7_fits {h : ax_H} {n : Nat} (k a b c : Int32)  : ax_C yX7_fits cX7_fits 4 (some .boolean) 1 0 0 [.int k, .int a, .int b, .int c] h n (ki (if okP k a b c then 1 else 0) h n) := by
  refine ax_C.go RX7 "fits" [some (.int k), some (.int a), some (.int b), some (.int c)] rfl rfl pn_X7 (lb rfl) rfl (fun l G cy bs => ?_)
  refine il0 dX7_fits_0 ?_
  refine s_X7_154 dX7_fits_1 (cn_X7_isKind _) ⟨lb rfl, lb rfl, lb rfl, lb rfl⟩ ?_
  refine xt_if_ne 9 dX7_fits_4 rfl (fun c4 => ?_) (fun c4 => ?_)
  · have d4 := of_fl1 c4
    refine il0 dX7_fits_9 ?_
    refine xt_iconst (3) dX7_fits_10 rfl ?_
    refine xt_icmp_eq 19 dX7_fits_11 rfl (fun c11 => ?_) (fun c11 => ?_)
    · refine il1 dX7_fits_19 ?_
      refine xt_bipush (10) dX7_fits_20 rfl ?_
      refine s_X7_278 dX7_fits_22 (cn_X7_isWithin _ _) ⟨lb rfl, lb rfl, lb rfl, lb rfl⟩ ?_
      refine xt_if_eq 60 dX7_fits_25 rfl (fun c25 => ?_) (fun c25 => ?_)
      · have d25 := of_fl0 c25
        refine xt_iconst (0) dX7_fits_60 rfl ?_
        exact xt_zret dX7_fits_61 rfl (Or.inl rfl) (lb rfl) (lb rfl) ⟨by (try clear c4); (try clear c25); (try clear c34); (try clear c68); (try clear c77); (try clear c86); simp only [fb_le, fb_lt, fb_eq, ti_0, ti_1, ti_2, ti_3, ti_4, ti_5, ti_10, ti_15, ti_99, ti_m10, ti_m15] at *; rw [if_neg (fun z => by have := okP_iff.mp z; omega)], rfl, rfl⟩
      · have d25 := of_fl1 c25
        refine il2 dX7_fits_28 ?_
        refine xt_bipush (10) dX7_fits_29 rfl ?_
        refine s_X7_278 dX7_fits_31 (cn_X7_isWithin _ _) ⟨lb rfl, lb rfl, lb rfl, lb rfl⟩ ?_
        refine xt_if_eq 60 dX7_fits_34 rfl (fun c34 => ?_) (fun c34 => ?_)
        · have d34 := of_fl0 c34
          refine xt_iconst (0) dX7_fits_60 rfl ?_
          exact xt_zret dX7_fits_61 rfl (Or.inl rfl) (lb rfl) (lb rfl) ⟨by (try clear c4); (try clear c25); (try clear c34); (try clear c68); (try clear c77); (try clear c86); simp only [fb_le, fb_lt, fb_eq, ti_0, ti_1, ti_2, ti_3, ti_4, ti_5, ti_10, ti_15, ti_99, ti_m10, ti_m15] at *; rw [if_neg (fun z => by have := okP_iff.mp z; omega)], rfl, rfl⟩
        · have d34 := of_fl1 c34
          refine il1 dX7_fits_37 ?_
          refine xt_if_ne 45 dX7_fits_38 rfl (fun c38 => ?_) (fun c38 => ?_)
          · refine il3 dX7_fits_45 ?_
            refine xt_iconst (1) dX7_fits_46 rfl ?_
            refine xt_icmp_lt 60 dX7_fits_47 rfl (fun c47 => ?_) (fun c47 => ?_)
            · refine xt_iconst (0) dX7_fits_60 rfl ?_
              exact xt_zret dX7_fits_61 rfl (Or.inl rfl) (lb rfl) (lb rfl) ⟨by (try clear c4); (try clear c25); (try clear c34); (try clear c68); (try clear c77); (try clear c86); simp only [fb_le, fb_lt, fb_eq, ti_0, ti_1, ti_2, ti_3, ti_4, ti_5, ti_10, ti_15, ti_99, ti_m10, ti_m15] at *; rw [if_neg (fun z => by have := okP_iff.mp z; omega)], rfl, rfl⟩
            · refine il3 dX7_fits_50 ?_
              refine xt_bipush (99) dX7_fits_51 rfl ?_
              refine xt_icmp_gt 60 dX7_fits_53 rfl (fun c53 => ?_) (fun c53 => ?_)
              · refine xt_iconst (0) dX7_fits_60 rfl ?_
                exact xt_zret dX7_fits_61 rfl (Or.inl rfl) (lb rfl) (lb rfl) ⟨by (try clear c4); (try clear c25); (try clear c34); (try clear c68); (try clear c77); (try clear c86); simp only [fb_le, fb_lt, fb_eq, ti_0, ti_1, ti_2, ti_3, ti_4, ti_5, ti_10, ti_15, ti_99, ti_m10, ti_m15] at *; rw [if_neg (fun z => by have := okP_iff.mp z; omega)], rfl, rfl⟩
              · refine xt_iconst (1) dX7_fits_56 rfl ?_
                refine xt_goto 61 dX7_fits_57 rfl ?_
                exact xt_zret dX7_fits_61 rfl (Or.inr rfl) (lb rfl) (lb rfl) ⟨by (try clear c4); (try clear c25); (try clear c34); (try clear c68); (try clear c77); (try clear c86); simp only [fb_le, fb_lt, fb_eq, ti_0, ti_1, ti_2, ti_3, ti_4, ti_5, ti_10, ti_15, ti_99, ti_m10, ti_m15] at *; rw [if_pos (okP_iff.mpr (by omega))], rfl, rfl⟩
          · refine il2 dX7_fits_41 ?_
            refine xt_if_eq 60 dX7_fits_42 rfl (fun c42 => ?_) (fun c42 => ?_)
            · refine xt_iconst (0) dX7_fits_60 rfl ?_
              exact xt_zret dX7_fits_61 rfl (Or.inl rfl) (lb rfl) (lb rfl) ⟨by (try clear c4); (try clear c25); (try clear c34); (try clear c68); (try clear c77); (try clear c86); simp only [fb_le, fb_lt, fb_eq, ti_0, ti_1, ti_2, ti_3, ti_4, ti_5, ti_10, ti_15, ti_99, ti_m10, ti_m15] at *; rw [if_neg (fun z => by have := okP_iff.mp z; omega)], rfl, rfl⟩
            · refine il3 dX7_fits_45 ?_
              refine xt_iconst (1) dX7_fits_46 rfl ?_
              refine xt_icmp_lt 60 dX7_fits_47 rfl (fun c47 => ?_) (fun c47 => ?_)
              · refine xt_iconst (0) dX7_fits_60 rfl ?_
                exact xt_zret dX7_fits_61 rfl (Or.inl rfl) (lb rfl) (lb rfl) ⟨by (try clear c4); (try clear c25); (try clear c34); (try clear c68); (try clear c77); (try clear c86); simp only [fb_le, fb_lt, fb_eq, ti_0, ti_1, ti_2, ti_3, ti_4, ti_5, ti_10, ti_15, ti_99, ti_m10, ti_m15] at *; rw [if_neg (fun z => by have := okP_iff.mp z; omega)], rfl, rfl⟩
              · refine il3 dX7_fits_50 ?_
                refine xt_bipush (99) dX7_fits_51 rfl ?_
                refine xt_icmp_gt 60 dX7_fits_53 rfl (fun c53 => ?_) (fun c53 => ?_)
                · refine xt_iconst (0) dX7_fits_60 rfl ?_
                  exact xt_zret dX7_fits_61 rfl (Or.inl rfl) (lb rfl) (lb rfl) ⟨by (try clear c4); (try clear c25); (try clear c34); (try clear c68); (try clear c77); (try clear c86); simp only [fb_le, fb_lt, fb_eq, ti_0, ti_1, ti_2, ti_3, ti_4, ti_5, ti_10, ti_15, ti_99, ti_m10, ti_m15] at *; rw [if_neg (fun z => by have := okP_iff.mp z; omega)], rfl, rfl⟩
                · refine xt_iconst (1) dX7_fits_56 rfl ?_
                  refine xt_goto 61 dX7_fits_57 rfl ?_
                  exact xt_zret dX7_fits_61 rfl (Or.inr rfl) (lb rfl) (lb rfl) ⟨by (try clear c4); (try clear c25); (try clear c34); (try clear c68); (try clear c77); (try clear c86); simp only [fb_le, fb_lt, fb_eq, ti_0, ti_1, ti_2, ti_3, ti_4, ti_5, ti_10, ti_15, ti_99, ti_m10, ti_m15] at *; rw [if_pos (okP_iff.mpr (by omega))], rfl, rfl⟩
    · refine il0 dX7_fits_14 ?_
      refine xt_iconst (4) dX7_fits_15 rfl ?_
      refine xt_icmp_ne 62 dX7_fits_16 rfl (fun c16 => ?_) (fun c16 => ?_)
      · refine il1 dX7_fits_62 ?_
        refine xt_bipush (15) dX7_fits_63 rfl ?_
        refine s_X7_278 dX7_fits_65 (cn_X7_isWithin _ _) ⟨lb rfl, lb rfl, lb rfl, lb rfl⟩ ?_
        refine xt_if_eq 105 dX7_fits_68 rfl (fun c68 => ?_) (fun c68 => ?_)
        · have d68 := of_fl0 c68
          refine xt_iconst (0) dX7_fits_105 rfl ?_
          exact xt_zret dX7_fits_106 rfl (Or.inl rfl) (lb rfl) (lb rfl) ⟨by (try clear c4); (try clear c25); (try clear c34); (try clear c68); (try clear c77); (try clear c86); simp only [fb_le, fb_lt, fb_eq, ti_0, ti_1, ti_2, ti_3, ti_4, ti_5, ti_10, ti_15, ti_99, ti_m10, ti_m15] at *; rw [if_neg (fun z => by have := okP_iff.mp z; omega)], rfl, rfl⟩
        · have d68 := of_fl1 c68
          refine il2 dX7_fits_71 ?_
          refine xt_bipush (15) dX7_fits_72 rfl ?_
          refine s_X7_278 dX7_fits_74 (cn_X7_isWithin _ _) ⟨lb rfl, lb rfl, lb rfl, lb rfl⟩ ?_
          refine xt_if_eq 105 dX7_fits_77 rfl (fun c77 => ?_) (fun c77 => ?_)
          · have d77 := of_fl0 c77
            refine xt_iconst (0) dX7_fits_105 rfl ?_
            exact xt_zret dX7_fits_106 rfl (Or.inl rfl) (lb rfl) (lb rfl) ⟨by (try clear c4); (try clear c25); (try clear c34); (try clear c68); (try clear c77); (try clear c86); simp only [fb_le, fb_lt, fb_eq, ti_0, ti_1, ti_2, ti_3, ti_4, ti_5, ti_10, ti_15, ti_99, ti_m10, ti_m15] at *; rw [if_neg (fun z => by have := okP_iff.mp z; omega)], rfl, rfl⟩
          · have d77 := of_fl1 c77
            refine il3 dX7_fits_80 ?_
            refine xt_bipush (15) dX7_fits_81 rfl ?_
            refine s_X7_278 dX7_fits_83 (cn_X7_isWithin _ _) ⟨lb rfl, lb rfl, lb rfl, lb rfl⟩ ?_
            refine xt_if_eq 105 dX7_fits_86 rfl (fun c86 => ?_) (fun c86 => ?_)
            · have d86 := of_fl0 c86
              refine xt_iconst (0) dX7_fits_105 rfl ?_
              exact xt_zret dX7_fits_106 rfl (Or.inl rfl) (lb rfl) (lb rfl) ⟨by (try clear c4); (try clear c25); (try clear c34); (try clear c68); (try clear c77); (try clear c86); simp only [fb_le, fb_lt, fb_eq, ti_0, ti_1, ti_2, ti_3, ti_4, ti_5, ti_10, ti_15, ti_99, ti_m10, ti_m15] at *; rw [if_neg (fun z => by have := okP_iff.mp z; omega)], rfl, rfl⟩
            · have d86 := of_fl1 c86
              refine il1 dX7_fits_89 ?_
              refine xt_if_ne 101 dX7_fits_90 rfl (fun c90 => ?_) (fun c90 => ?_)
              · refine xt_iconst (1) dX7_fits_101 rfl ?_
                refine xt_goto 106 dX7_fits_102 rfl ?_
                exact xt_zret dX7_fits_106 rfl (Or.inr rfl) (lb rfl) (lb rfl) ⟨by (try clear c4); (try clear c25); (try clear c34); (try clear c68); (try clear c77); (try clear c86); simp only [fb_le, fb_lt, fb_eq, ti_0, ti_1, ti_2, ti_3, ti_4, ti_5, ti_10, ti_15, ti_99, ti_m10, ti_m15] at *; rw [if_pos (okP_iff.mpr (by omega))], rfl, rfl⟩
              · refine il2 dX7_fits_93 ?_
                refine xt_if_ne 101 dX7_fits_94 rfl (fun c94 => ?_) (fun c94 => ?_)
                · refine xt_iconst (1) dX7_fits_101 rfl ?_
                  refine xt_goto 106 dX7_fits_102 rfl ?_
                  exact xt_zret dX7_fits_106 rfl (Or.inr rfl) (lb rfl) (lb rfl) ⟨by (try clear c4); (try clear c25); (try clear c34); (try clear c68); (try clear c77); (try clear c86); simp only [fb_le, fb_lt, fb_eq, ti_0, ti_1, ti_2, ti_3, ti_4, ti_5, ti_10, ti_15, ti_99, ti_m10, ti_m15] at *; rw [if_pos (okP_iff.mpr (by omega))], rfl, rfl⟩
                · refine il3 dX7_fits_97 ?_
                  refine xt_if_eq 105 dX7_fits_98 rfl (fun c98 => ?_) (fun c98 => ?_)
                  · refine xt_iconst (0) dX7_fits_105 rfl ?_
                    exact xt_zret dX7_fits_106 rfl (Or.inl rfl) (lb rfl) (lb rfl) ⟨by (try clear c4); (try clear c25); (try clear c34); (try clear c68); (try clear c77); (try clear c86); simp only [fb_le, fb_lt, fb_eq, ti_0, ti_1, ti_2, ti_3, ti_4, ti_5, ti_10, ti_15, ti_99, ti_m10, ti_m15] at *; rw [if_neg (fun z => by have := okP_iff.mp z; omega)], rfl, rfl⟩
                  · refine xt_iconst (1) dX7_fits_101 rfl ?_
                    refine xt_goto 106 dX7_fits_102 rfl ?_
                    exact xt_zret dX7_fits_106 rfl (Or.inr rfl) (lb rfl) (lb rfl) ⟨by (try clear c4); (try clear c25); (try clear c34); (try clear c68); (try clear c77); (try clear c86); simp only [fb_le, fb_lt, fb_eq, ti_0, ti_1, ti_2, ti_3, ti_4, ti_5, ti_10, ti_15, ti_99, ti_m10, ti_m15] at *; rw [if_pos (okP_iff.mpr (by omega))], rfl, rfl⟩
      · refine il1 dX7_fits_19 ?_
        refine xt_bipush (10) dX7_fits_20 rfl ?_
        refine s_X7_278 dX7_fits_22 (cn_X7_isWithin _ _) ⟨lb rfl, lb rfl, lb rfl, lb rfl⟩ ?_
        refine xt_if_eq 60 dX7_fits_25 rfl (fun c25 => ?_) (fun c25 => ?_)
        · have d25 := of_fl0 c25
          refine xt_iconst (0) dX7_fits_60 rfl ?_
          exact xt_zret dX7_fits_61 rfl (Or.inl rfl) (lb rfl) (lb rfl) ⟨by (try clear c4); (try clear c25); (try clear c34); (try clear c68); (try clear c77); (try clear c86); simp only [fb_le, fb_lt, fb_eq, ti_0, ti_1, ti_2, ti_3, ti_4, ti_5, ti_10, ti_15, ti_99, ti_m10, ti_m15] at *; rw [if_neg (fun z => by have := okP_iff.mp z; omega)], rfl, rfl⟩
        · have d25 := of_fl1 c25
          refine il2 dX7_fits_28 ?_
          refine xt_bipush (10) dX7_fits_29 rfl ?_
          refine s_X7_278 dX7_fits_31 (cn_X7_isWithin _ _) ⟨lb rfl, lb rfl, lb rfl, lb rfl⟩ ?_
          refine xt_if_eq 60 dX7_fits_34 rfl (fun c34 => ?_) (fun c34 => ?_)
          · have d34 := of_fl0 c34
            refine xt_iconst (0) dX7_fits_60 rfl ?_
            exact xt_zret dX7_fits_61 rfl (Or.inl rfl) (lb rfl) (lb rfl) ⟨by (try clear c4); (try clear c25); (try clear c34); (try clear c68); (try clear c77); (try clear c86); simp only [fb_le, fb_lt, fb_eq, ti_0, ti_1, ti_2, ti_3, ti_4, ti_5, ti_10, ti_15, ti_99, ti_m10, ti_m15] at *; rw [if_neg (fun z => by have := okP_iff.mp z; omega)], rfl, rfl⟩
          · have d34 := of_fl1 c34
            refine il1 dX7_fits_37 ?_
            refine xt_if_ne 45 dX7_fits_38 rfl (fun c38 => ?_) (fun c38 => ?_)
            · refine il3 dX7_fits_45 ?_
              refine xt_iconst (1) dX7_fits_46 rfl ?_
              refine xt_icmp_lt 60 dX7_fits_47 rfl (fun c47 => ?_) (fun c47 => ?_)
              · refine xt_iconst (0) dX7_fits_60 rfl ?_
                exact xt_zret dX7_fits_61 rfl (Or.inl rfl) (lb rfl) (lb rfl) ⟨by (try clear c4); (try clear c25); (try clear c34); (try clear c68); (try clear c77); (try clear c86); simp only [fb_le, fb_lt, fb_eq, ti_0, ti_1, ti_2, ti_3, ti_4, ti_5, ti_10, ti_15, ti_99, ti_m10, ti_m15] at *; rw [if_neg (fun z => by have := okP_iff.mp z; omega)], rfl, rfl⟩
              · refine il3 dX7_fits_50 ?_
                refine xt_bipush (99) dX7_fits_51 rfl ?_
                refine xt_icmp_gt 60 dX7_fits_53 rfl (fun c53 => ?_) (fun c53 => ?_)
                · refine xt_iconst (0) dX7_fits_60 rfl ?_
                  exact xt_zret dX7_fits_61 rfl (Or.inl rfl) (lb rfl) (lb rfl) ⟨by (try clear c4); (try clear c25); (try clear c34); (try clear c68); (try clear c77); (try clear c86); simp only [fb_le, fb_lt, fb_eq, ti_0, ti_1, ti_2, ti_3, ti_4, ti_5, ti_10, ti_15, ti_99, ti_m10, ti_m15] at *; rw [if_neg (fun z => by have := okP_iff.mp z; omega)], rfl, rfl⟩
                · refine xt_iconst (1) dX7_fits_56 rfl ?_
                  refine xt_goto 61 dX7_fits_57 rfl ?_
                  exact xt_zret dX7_fits_61 rfl (Or.inr rfl) (lb rfl) (lb rfl) ⟨by (try clear c4); (try clear c25); (try clear c34); (try clear c68); (try clear c77); (try clear c86); simp only [fb_le, fb_lt, fb_eq, ti_0, ti_1, ti_2, ti_3, ti_4, ti_5, ti_10, ti_15, ti_99, ti_m10, ti_m15] at *; rw [if_pos (okP_iff.mpr (by omega))], rfl, rfl⟩
            · refine il2 dX7_fits_41 ?_
              refine xt_if_eq 60 dX7_fits_42 rfl (fun c42 => ?_) (fun c42 => ?_)
              · refine xt_iconst (0) dX7_fits_60 rfl ?_
                exact xt_zret dX7_fits_61 rfl (Or.inl rfl) (lb rfl) (lb rfl) ⟨by (try clear c4); (try clear c25); (try clear c34); (try clear c68); (try clear c77); (try clear c86); simp only [fb_le, fb_lt, fb_eq, ti_0, ti_1, ti_2, ti_3, ti_4, ti_5, ti_10, ti_15, ti_99, ti_m10, ti_m15] at *; rw [if_neg (fun z => by have := okP_iff.mp z; omega)], rfl, rfl⟩
              · refine il3 dX7_fits_45 ?_
                refine xt_iconst (1) dX7_fits_46 rfl ?_
                refine xt_icmp_lt 60 dX7_fits_47 rfl (fun c47 => ?_) (fun c47 => ?_)
                · refine xt_iconst (0) dX7_fits_60 rfl ?_
                  exact xt_zret dX7_fits_61 rfl (Or.inl rfl) (lb rfl) (lb rfl) ⟨by (try clear c4); (try clear c25); (try clear c34); (try clear c68); (try clear c77); (try clear c86); simp only [fb_le, fb_lt, fb_eq, ti_0, ti_1, ti_2, ti_3, ti_4, ti_5, ti_10, ti_15, ti_99, ti_m10, ti_m15] at *; rw [if_neg (fun z => by have := okP_iff.mp z; omega)], rfl, rfl⟩
                · refine il3 dX7_fits_50 ?_
                  refine xt_bipush (99) dX7_fits_51 rfl ?_
                  refine xt_icmp_gt 60 dX7_fits_53 rfl (fun c53 => ?_) (fun c53 => ?_)
                  · refine xt_iconst (0) dX7_fits_60 rfl ?_
                    exact xt_zret dX7_fits_61 rfl (Or.inl rfl) (lb rfl) (lb rfl) ⟨by (try clear c4); (try clear c25); (try clear c34); (try clear c68); (try clear c77); (try clear c86); simp only [fb_le, fb_lt, fb_eq, ti_0, ti_1, ti_2, ti_3, ti_4, ti_5, ti_10, ti_15, ti_99, ti_m10, ti_m15] at *; rw [if_neg (fun z => by have := okP_iff.mp z; omega)], rfl, rfl⟩
                  · refine xt_iconst (1) dX7_fits_56 rfl ?_
                    refine xt_goto 61 dX7_fits_57 rfl ?_
                    exact xt_zret dX7_fits_61 rfl (Or.inr rfl) (lb rfl) (lb rfl) ⟨by (try clear c4); (try clear c25); (try clear c34); (try clear c68); (try clear c77); (try clear c86); simp only [fb_le, fb_lt, fb_eq, ti_0, ti_1, ti_2, ti_3, ti_4, ti_5, ti_10, ti_15, ti_99, ti_m10, ti_m15] at *; rw [if_pos (okP_iff.mpr (by omega))], rfl, rfl⟩
  · have d4 := of_fl0 c4
    refine xt_iconst (0) dX7_fits_7 rfl ?_
    exact xt_zret dX7_fits_8 rfl (Or.inl rfl) (lb rfl) (lb rfl) ⟨by (try clear c4); (try clear c25); (try clear c34); (try clear c68); (try clear c77); (try clear c86); simp only [fb_le, fb_lt, fb_eq, ti_0, ti_1, ti_2, ti_3, ti_4, ti_5, ti_10, ti_15, ti_99, ti_m10, ti_m15] at *; rw [if_neg (fun z => by have := okP_iff.mp z; omega)], rfl, rfl⟩
set_option maxHeartbeats 400000 in
set_option maxRecDepth 100000 in
theorem cn_X7_ncr_b {h : ax_H} {n : Nat} {r : Nat → Int32} {m : Nat} {R : Nat → Nat → Int32} {u : Nat} {im iu : Int32} {Wi : Nat → Nat → Int32} {t : Nat} {tp mn la : Nat → Int32} {it : Nat → Int64} (hI : CB h r m R u im iu Wi t tp mn la it) (k a b c : Int32) (hp0 : ¬ okP k a b c) : ax_C yX7_newcomerRefusal cX7_newcomerRefusal 5 (some .int) 2 0 0 [.ref 0, .int k, .int a, .int b, .int c] h n (ki ((-1000001)) h n) := by
  refine ax_C.go RX7 "newcomerRefusal" [some (.ref 0), some (.int k), some (.int a), some (.int b), some (.int c)] rfl rfl pn_X7 (lb rfl) rfl (fun l G cy bs => ?_)
  obtain ⟨a0, hS, hA, hW, hRd, hG, hM, hH⟩ := (id hI : CB h _ _ _ _ _ _ _ _ _ _ _ _)
  obtain ⟨sp, pi, pp, nw, bz, hd, dw, k1, hP, ⟨s1, s2, s3, s4, s5, s6⟩, k4⟩ := (id hS : SR h 1 _ _)
  obtain ⟨⟨fs1, o1⟩, o17, ⟨fs6, o115⟩, hu6, hm12⟩ := CB.o hI
  have hbz := s5.b
  have him := hM.b
  refine il1 dX7_newcomerRefusal_0 ?_
  refine il2 dX7_newcomerRefusal_1 ?_
  refine il3 dX7_newcomerRefusal_2 ?_
  refine il4 dX7_newcomerRefusal_3 ?_
  refine s_X7_281 dX7_newcomerRefusal_5 (cn_X7_fits _ _ _ _) ⟨lb rfl, lb rfl, lb rfl, lb rfl⟩ ?_
  refine xt_if_ne 14 dX7_newcomerRefusal_8 rfl (fun q => absurd (fl0 hp0) q) (fun _ => ?_)
  refine k_X7_64 dX7_newcomerRefusal_11 ?_
  exact xt_iret dX7_newcomerRefusal_13 rfl (lb rfl) (lb rfl) ⟨rfl, rfl, rfl⟩
set_option maxHeartbeats 400000 in
set_option maxRecDepth 100000 in
theorem cn_X7_ncr_f {h : ax_H} {n : Nat} {r : Nat → Int32} {m : Nat} {R : Nat → Nat → Int32} {u : Nat} {im iu : Int32} {Wi : Nat → Nat → Int32} {t : Nat} {tp mn la : Nat → Int32} {it : Nat → Int64} (hI : CB h r m R u im iu Wi t tp mn la it) (k a b c : Int32) (hp0 : okP k a b c) (hm0 : m = 12) : ax_C yX7_newcomerRefusal cX7_newcomerRefusal 5 (some .int) 2 0 0 [.ref 0, .int k, .int a, .int b, .int c] h n (ki ((-1000003)) h n) := by
  refine ax_C.go RX7 "newcomerRefusal" [some (.ref 0), some (.int k), some (.int a), some (.int b), some (.int c)] rfl rfl pn_X7 (lb rfl) rfl (fun l G cy bs => ?_)
  obtain ⟨a0, hS, hA, hW, hRd, hG, hM, hH⟩ := (id hI : CB h _ _ _ _ _ _ _ _ _ _ _ _)
  obtain ⟨sp, pi, pp, nw, bz, hd, dw, k1, hP, ⟨s1, s2, s3, s4, s5, s6⟩, k4⟩ := (id hS : SR h 1 _ _)
  obtain ⟨⟨fs1, o1⟩, o17, ⟨fs6, o115⟩, hu6, hm12⟩ := CB.o hI
  have hbz := s5.b
  have him := hM.b
  refine il1 dX7_newcomerRefusal_0 ?_
  refine il2 dX7_newcomerRefusal_1 ?_
  refine il3 dX7_newcomerRefusal_2 ?_
  refine il4 dX7_newcomerRefusal_3 ?_
  refine s_X7_281 dX7_newcomerRefusal_5 (cn_X7_fits _ _ _ _) ⟨lb rfl, lb rfl, lb rfl, lb rfl⟩ ?_
  refine xt_if_ne 14 dX7_newcomerRefusal_8 rfl (fun _ => ?_) (fun q => absurd q (fl1 hp0))
  refine al0 dX7_newcomerRefusal_14 ?_
  refine g_X7_12 dX7_newcomerRefusal_15 a0 ?_
  refine g_X7_68 dX7_newcomerRefusal_18 k1.1 ?_
  refine xt_bipush (12) dX7_newcomerRefusal_21 rfl ?_
  refine xt_icmp_ge 30 dX7_newcomerRefusal_23 rfl (fun _ => ?_) (fun q => absurd (by rw [hm0]; decide) q)
  refine k_X7_95 dX7_newcomerRefusal_30 ?_
  exact xt_iret dX7_newcomerRefusal_32 rfl (lb rfl) (lb rfl) ⟨rfl, rfl, rfl⟩
set_option maxHeartbeats 400000 in
set_option maxRecDepth 100000 in
theorem cn_X7_ncr {h : ax_H} {n : Nat} {r : Nat → Int32} {m : Nat} {R : Nat → Nat → Int32} {u : Nat} {im iu : Int32} {Wi : Nat → Nat → Int32} {t : Nat} {tp mn la : Nat → Int32} {it : Nat → Int64} (hI : CB h r m R u im iu Wi t tp mn la it) (k a b c : Int32) (hp0 : okP k a b c) (hm0 : m < 12) : ax_C yX7_newcomerRefusal cX7_newcomerRefusal 5 (some .int) 2 0 0 [.ref 0, .int k, .int a, .int b, .int c] h n (ki (0) h n) := by
  refine ax_C.go RX7 "newcomerRefusal" [some (.ref 0), some (.int k), some (.int a), some (.int b), some (.int c)] rfl rfl pn_X7 (lb rfl) rfl (fun l G cy bs => ?_)
  obtain ⟨a0, hS, hA, hW, hRd, hG, hM, hH⟩ := (id hI : CB h _ _ _ _ _ _ _ _ _ _ _ _)
  obtain ⟨sp, pi, pp, nw, bz, hd, dw, k1, hP, ⟨s1, s2, s3, s4, s5, s6⟩, k4⟩ := (id hS : SR h 1 _ _)
  obtain ⟨⟨fs1, o1⟩, o17, ⟨fs6, o115⟩, hu6, hm12⟩ := CB.o hI
  have hbz := s5.b
  have him := hM.b
  refine il1 dX7_newcomerRefusal_0 ?_
  refine il2 dX7_newcomerRefusal_1 ?_
  refine il3 dX7_newcomerRefusal_2 ?_
  refine il4 dX7_newcomerRefusal_3 ?_
  refine s_X7_281 dX7_newcomerRefusal_5 (cn_X7_fits _ _ _ _) ⟨lb rfl, lb rfl, lb rfl, lb rfl⟩ ?_
  refine xt_if_ne 14 dX7_newcomerRefusal_8 rfl (fun _ => ?_) (fun q => absurd q (fl1 hp0))
  refine al0 dX7_newcomerRefusal_14 ?_
  refine g_X7_12 dX7_newcomerRefusal_15 a0 ?_
  refine g_X7_68 dX7_newcomerRefusal_18 k1.1 ?_
  refine xt_bipush (12) dX7_newcomerRefusal_21 rfl ?_
  refine xt_icmp_ge 30 dX7_newcomerRefusal_23 rfl (fun q => absurd q (nI_ge (a := m) (b := 12) (by omega) (by decide))) (fun _ => ?_)
  refine xt_iconst (0) dX7_newcomerRefusal_26 rfl ?_
  refine xt_goto 32 dX7_newcomerRefusal_27 rfl ?_
  exact xt_iret dX7_newcomerRefusal_32 rfl (lb rfl) (lb rfl) ⟨rfl, rfl, rfl⟩
set_option maxHeartbeats 400000 in
set_option maxRecDepth 100000 in
theorem cn_X7_detail0 {h : ax_H} {n : Nat}  {p : Nat} {q : Nat → Int32} (hp0 : h p = some (ePc q)) : ax_C yX7_detail cX7_detail 2 (some .int) 3 0 0 [.ref p, .int (nI 0)] h n (ki (q 0) h n) := by
  refine ax_C.go RX7 "detail" [some (.ref p), some (.int (nI 0))] rfl rfl pn_X7 (lb rfl) rfl (fun l G cy bs => ?_)
  refine il1 dX7_detail_0 ?_
  refine xt_tableIn (off := 31) 32 dX7_detail_1 (by decide) (by decide) (by decide) rfl ?_
  refine al0 dX7_detail_32 ?_
  refine g_X7_113 dX7_detail_33 hp0 ?_
  exact xt_iret dX7_detail_36 rfl (lb rfl) (lb rfl) ⟨rfl, rfl, rfl⟩
set_option maxHeartbeats 400000 in
set_option maxRecDepth 100000 in
theorem cn_X7_detail1 {h : ax_H} {n : Nat}  {p : Nat} {q : Nat → Int32} (hp0 : h p = some (ePc q)) : ax_C yX7_detail cX7_detail 2 (some .int) 3 0 0 [.ref p, .int (nI 1)] h n (ki (q 1) h n) := by
  refine ax_C.go RX7 "detail" [some (.ref p), some (.int (nI 1))] rfl rfl pn_X7 (lb rfl) rfl (fun l G cy bs => ?_)
  refine il1 dX7_detail_0 ?_
  refine xt_tableIn (off := 36) 37 dX7_detail_1 (by decide) (by decide) (by decide) rfl ?_
  refine al0 dX7_detail_37 ?_
  refine g_X7_118 dX7_detail_38 hp0 ?_
  exact xt_iret dX7_detail_41 rfl (lb rfl) (lb rfl) ⟨rfl, rfl, rfl⟩
set_option maxHeartbeats 400000 in
set_option maxRecDepth 100000 in
theorem cn_X7_detail2 {h : ax_H} {n : Nat}  {p : Nat} {q : Nat → Int32} (hp0 : h p = some (ePc q)) : ax_C yX7_detail cX7_detail 2 (some .int) 3 0 0 [.ref p, .int (nI 2)] h n (ki (q 2) h n) := by
  refine ax_C.go RX7 "detail" [some (.ref p), some (.int (nI 2))] rfl rfl pn_X7 (lb rfl) rfl (fun l G cy bs => ?_)
  refine il1 dX7_detail_0 ?_
  refine xt_tableIn (off := 41) 42 dX7_detail_1 (by decide) (by decide) (by decide) rfl ?_
  refine al0 dX7_detail_42 ?_
  refine g_X7_121 dX7_detail_43 hp0 ?_
  exact xt_iret dX7_detail_46 rfl (lb rfl) (lb rfl) ⟨rfl, rfl, rfl⟩
set_option maxHeartbeats 400000 in
set_option maxRecDepth 100000 in
theorem cn_X7_detail3 {h : ax_H} {n : Nat}  {p : Nat} {q : Nat → Int32} (hp0 : h p = some (ePc q)) : ax_C yX7_detail cX7_detail 2 (some .int) 3 0 0 [.ref p, .int (nI 3)] h n (ki (q 3) h n) := by
  refine ax_C.go RX7 "detail" [some (.ref p), some (.int (nI 3))] rfl rfl pn_X7 (lb rfl) rfl (fun l G cy bs => ?_)
  refine il1 dX7_detail_0 ?_
  refine xt_tableIn (off := 46) 47 dX7_detail_1 (by decide) (by decide) (by decide) rfl ?_
  refine al0 dX7_detail_47 ?_
  refine g_X7_124 dX7_detail_48 hp0 ?_
  exact xt_iret dX7_detail_51 rfl (lb rfl) (lb rfl) ⟨rfl, rfl, rfl⟩
set_option maxHeartbeats 400000 in
set_option maxRecDepth 100000 in
theorem cn_X7_detail4 {h : ax_H} {n : Nat}  {p : Nat} {q : Nat → Int32} (hp0 : h p = some (ePc q)) : ax_C yX7_detail cX7_detail 2 (some .int) 3 0 0 [.ref p, .int (nI 4)] h n (ki (remQ q) h n) := by
  refine ax_C.go RX7 "detail" [some (.ref p), some (.int (nI 4))] rfl rfl pn_X7 (lb rfl) rfl (fun l G cy bs => ?_)
  refine il1 dX7_detail_0 ?_
  refine xt_tableOut 52 dX7_detail_1 (by decide) rfl ?_
  refine al0 dX7_detail_52 ?_
  refine s_X7_162 dX7_detail_53 (cn_X2_remaining hp0) hp0 ⟨lb rfl, lb rfl, lb rfl, lb rfl⟩ ?_
  exact xt_iret dX7_detail_56 rfl (lb rfl) (lb rfl) ⟨rfl, rfl, rfl⟩
theorem cn_X7_detail {h : ax_H} {n : Nat} {p : Nat} {q : Nat → Int32} (hp0 : h p = some (ePc q)) (j : Nat) (hj : j < 4) : ax_C yX7_detail cX7_detail 2 (some .int) 3 0 0 [.ref p, .int (nI j)] h n (ki (q j) h n) := by
  rcases (show j = 0 ∨ j = 1 ∨ j = 2 ∨ j = 3 by omega) with rfl | rfl | rfl | rfl
  · exact cn_X7_detail0 hp0
  · exact cn_X7_detail1 hp0
  · exact cn_X7_detail2 hp0
  · exact cn_X7_detail3 hp0
set_option maxHeartbeats 400000 in
set_option maxRecDepth 100000 in
theorem cr_X7_place {h : ax_H} {n : Nat} {r : Nat → Int32} {m : Nat} {R : Nat → Nat → Int32} {u : Nat} {im iu : Int32} {Wi : Nat → Nat → Int32} {t : Nat} {tp mn la : Nat → Int32} {it : Nat → Int64} (hI : CB h r m R u im iu Wi t tp mn la it) (a : Nat) (ha : a < 3) : ax_C yX7_place cX7_place 2 (some .int) 1 0 0 [.ref 0, .int (nI a)] h n (kE (r a) (fun h2 => CB h2 r m R u im iu Wi t tp mn la it ∧ FM n h h2) n) := by
  refine ax_C.go RX7 "place" [some (.ref 0), some (.int (nI a))] rfl rfl pn_X7 (lb rfl) rfl (fun l G cy bs => ?_)
  obtain ⟨a0, hS, hA, hW, hRd, hG, hM, hH⟩ := (id hI : CB h _ _ _ _ _ _ _ _ _ _ _ _)
  obtain ⟨sp, pi, pp, nw, bz, hd, dw, k1, hP, ⟨s1, s2, s3, s4, s5, s6⟩, k4⟩ := (id hS : SR h 1 _ _)
  obtain ⟨⟨fs1, o1⟩, o17, ⟨fs6, o115⟩, hu6, hm12⟩ := CB.o hI
  have hbz := s5.b
  have him := hM.b
  refine il1 dX7_place_0 ?_
  refine s_X7_60 dX7_place_1 (cn_X7_isAxis _) ⟨lb rfl, lb rfl, lb rfl, lb rfl⟩ ?_
  refine xt_if_ne 10 dX7_place_4 rfl (fun _ => ?_) (fun q => absurd q (fl1 ⟨nI_pos' (by omega), nI_lt (b := 3) ha (by decide)⟩))
  refine al0 dX7_place_10 ?_
  refine g_X7_12 dX7_place_11 a0 ?_
  refine g_X7_65 dX7_place_14 k1.1 ?_
  refine il1 dX7_place_17 ?_
  refine xt_iald (a) k1.2.1 (by omega) rfl (by decide) dX7_place_18 ?_
  exact xt_iret dX7_place_19 rfl (lb rfl) (lb rfl) ⟨by rw [s1 a ha], ⟨hI, FM_rf⟩, rfl⟩
theorem ax3 {x : Int32} (h : ¬ (0 ≤ x ∧ x ≤ 2)) : ¬ (0 ≤ x ∧ x < 3) := by
  simp only [fb_le, fb_lt, ti_0, ti_2, ti_3] at *; omega
theorem ax4 {x : Int32} (h : ¬ (0 ≤ x ∧ x ≤ 3)) : ¬ (0 ≤ x ∧ x < 4) := by
  simp only [fb_le, fb_lt, ti_0, ti_4, ti_3] at *; omega
theorem ax4' {x : Int32} (h : 0 ≤ x ∧ x ≤ 3) : 0 ≤ x ∧ x < 4 := by
  simp only [fb_le, fb_lt, ti_0, ti_4, ti_3] at *; omega
theorem ax5 {x : Int32} (h : ¬ (0 ≤ x ∧ x ≤ 4)) : ¬ (0 ≤ x ∧ x < 5) := by
  simp only [fb_le, fb_lt, ti_0, ti_4, ti_5] at *; omega
theorem ax5' {x : Int32} (h : 0 ≤ x ∧ x ≤ 4) : 0 ≤ x ∧ x < 5 := by
  simp only [fb_le, fb_lt, ti_0, ti_4, ti_5] at *; omega
theorem sd {x : Int32} : (x = 0 ∨ x = 1) ↔ (0 ≤ x ∧ x ≤ 1) := by
  simp only [fb_le, fb_eq, ti_0, ti_1]; omega
theorem pk_hi {x : Int32} {m : Nat} (hm : m ≤ 12) : x ≤ nI m - 1 ↔ ¬ nI m ≤ x := by
  have e : (nI m - 1).toInt = (m : Int) - 1 := by
    have := subT (x := nI m) (y := 1) (by rw [nI_toInt (by omega), ti_1]; omega)
    rw [this, nI_toInt (by omega), ti_1]
  rw [fb_le, fb_le, e, nI_toInt (by omega)]; omega
theorem lt_m1 {x : Int32} : x < -1 ↔ ¬ -1 ≤ x := by rw [fb_lt, fb_le]; omega
set_option maxHeartbeats 400000 in
set_option maxRecDepth 100000 in
theorem cr_X7_place_b {h : ax_H} {n : Nat} {r : Nat → Int32} {m : Nat} {R : Nat → Nat → Int32} {u : Nat} {im iu : Int32} {Wi : Nat → Nat → Int32} {t : Nat} {tp mn la : Nat → Int32} {it : Nat → Int64} (hI : CB h r m R u im iu Wi t tp mn la it) (x : Int32) (hx : ¬ (0 ≤ x ∧ x ≤ 2)) : ax_C yX7_place cX7_place 2 (some .int) 1 0 0 [.ref 0, .int x] h n (kE ((-1000001)) (fun h2 => CB h2 r m R u im iu Wi t tp mn la it ∧ FM n h h2) n) := by
  refine ax_C.go RX7 "place" [some (.ref 0), some (.int x)] rfl rfl pn_X7 (lb rfl) rfl (fun l G cy bs => ?_)
  obtain ⟨a0, hS, hA, hW, hRd, hG, hM, hH⟩ := (id hI : CB h _ _ _ _ _ _ _ _ _ _ _ _)
  obtain ⟨sp, pi, pp, nw, bz, hd, dw, k1, hP, ⟨s1, s2, s3, s4, s5, s6⟩, k4⟩ := (id hS : SR h 1 _ _)
  obtain ⟨⟨fs1, o1⟩, o17, ⟨fs6, o115⟩, hu6, hm12⟩ := CB.o hI
  have hbz := s5.b
  have him := hM.b
  refine il1 dX7_place_0 ?_
  refine s_X7_60 dX7_place_1 (cn_X7_isAxis _) ⟨lb rfl, lb rfl, lb rfl, lb rfl⟩ ?_
  refine xt_if_ne 10 dX7_place_4 rfl (fun q => absurd (fl0 (ax3 hx)) q) (fun _ => ?_)
  refine k_X7_64 dX7_place_7 ?_
  exact xt_iret dX7_place_9 rfl (lb rfl) (lb rfl) ⟨rfl, ⟨hI, FM_rf⟩, rfl⟩
set_option maxHeartbeats 400000 in
set_option maxRecDepth 100000 in
theorem cr_X7_piece_b1 {h : ax_H} {n : Nat} {r : Nat → Int32} {m : Nat} {R : Nat → Nat → Int32} {u : Nat} {im iu : Int32} {Wi : Nat → Nat → Int32} {t : Nat} {tp mn la : Nat → Int32} {it : Nat → Int64} (hI : CB h r m R u im iu Wi t tp mn la it) (x b : Int32) (hx : ¬ (-1 ≤ x ∧ x ≤ nI m - 1)) : ax_C yX7_piece cX7_piece 3 (some .int) 4 0 0 [.ref 0, .int x, .int b] h n (kE ((-1000001)) (fun h2 => CB h2 r m R u im iu Wi t tp mn la it ∧ FM n h h2) n) := by
  refine ax_C.go RX7 "piece" [some (.ref 0), some (.int x), some (.int b)] rfl rfl pn_X7 (lb rfl) rfl (fun l G cy bs => ?_)
  obtain ⟨a0, hS, hA, hW, hRd, hG, hM, hH⟩ := (id hI : CB h _ _ _ _ _ _ _ _ _ _ _ _)
  obtain ⟨sp, pi, pp, nw, bz, hd, dw, k1, hP, ⟨s1, s2, s3, s4, s5, s6⟩, k4⟩ := (id hS : SR h 1 _ _)
  obtain ⟨⟨fs1, o1⟩, o17, ⟨fs6, o115⟩, hu6, hm12⟩ := CB.o hI
  have hbz := s5.b
  have him := hM.b
  refine il1 dX7_piece_0 ?_
  refine xt_iconst (-1) dX7_piece_1 rfl ?_
  refine xt_icmp_lt 25 dX7_piece_2 rfl (fun c2 => ?_) (fun c2 => ?_)
  · refine k_X7_64 dX7_piece_25 ?_
    exact xt_iret dX7_piece_27 rfl (lb rfl) (lb rfl) ⟨rfl, ⟨hI, FM_rf⟩, rfl⟩
  · refine il1 dX7_piece_5 ?_
    refine al0 dX7_piece_6 ?_
    refine g_X7_12 dX7_piece_7 a0 ?_
    refine g_X7_68 dX7_piece_10 k1.1 ?_
    refine xt_icmp_ge 25 dX7_piece_13 rfl (fun _ => ?_) (fun q => absurd (Classical.byContradiction (fun z => hx ⟨Classical.byContradiction (fun y => c2 (lt_m1.mpr y)), (pk_hi hm12).mpr z⟩)) q)
    refine k_X7_64 dX7_piece_25 ?_
    exact xt_iret dX7_piece_27 rfl (lb rfl) (lb rfl) ⟨rfl, ⟨hI, FM_rf⟩, rfl⟩
set_option maxHeartbeats 400000 in
set_option maxRecDepth 100000 in
theorem cr_X7_piece_b2 {h : ax_H} {n : Nat} {r : Nat → Int32} {m : Nat} {R : Nat → Nat → Int32} {u : Nat} {im iu : Int32} {Wi : Nat → Nat → Int32} {t : Nat} {tp mn la : Nat → Int32} {it : Nat → Int64} (hI : CB h r m R u im iu Wi t tp mn la it) (x b : Int32) (hx : -1 ≤ x ∧ x ≤ nI m - 1) (hb : ¬ (0 ≤ b ∧ b ≤ 4)) : ax_C yX7_piece cX7_piece 3 (some .int) 4 0 0 [.ref 0, .int x, .int b] h n (kE ((-1000001)) (fun h2 => CB h2 r m R u im iu Wi t tp mn la it ∧ FM n h h2) n) := by
  refine ax_C.go RX7 "piece" [some (.ref 0), some (.int x), some (.int b)] rfl rfl pn_X7 (lb rfl) rfl (fun l G cy bs => ?_)
  obtain ⟨a0, hS, hA, hW, hRd, hG, hM, hH⟩ := (id hI : CB h _ _ _ _ _ _ _ _ _ _ _ _)
  obtain ⟨sp, pi, pp, nw, bz, hd, dw, k1, hP, ⟨s1, s2, s3, s4, s5, s6⟩, k4⟩ := (id hS : SR h 1 _ _)
  obtain ⟨⟨fs1, o1⟩, o17, ⟨fs6, o115⟩, hu6, hm12⟩ := CB.o hI
  have hbz := s5.b
  have him := hM.b
  refine il1 dX7_piece_0 ?_
  refine xt_iconst (-1) dX7_piece_1 rfl ?_
  refine xt_icmp_lt 25 dX7_piece_2 rfl (fun q => absurd q (fun z => lt_m1.mp z hx.1)) (fun _ => ?_)
  refine il1 dX7_piece_5 ?_
  refine al0 dX7_piece_6 ?_
  refine g_X7_12 dX7_piece_7 a0 ?_
  refine g_X7_68 dX7_piece_10 k1.1 ?_
  refine xt_icmp_ge 25 dX7_piece_13 rfl (fun q => absurd q ((pk_hi hm12).mp hx.2)) (fun _ => ?_)
  refine il2 dX7_piece_16 ?_
  refine xt_if_lt 25 dX7_piece_17 rfl (fun c17 => ?_) (fun c17 => ?_)
  · refine k_X7_64 dX7_piece_25 ?_
    exact xt_iret dX7_piece_27 rfl (lb rfl) (lb rfl) ⟨rfl, ⟨hI, FM_rf⟩, rfl⟩
  · refine il2 dX7_piece_20 ?_
    refine xt_iconst (4) dX7_piece_21 rfl ?_
    refine xt_icmp_le 28 dX7_piece_22 rfl (fun q => absurd q (fun z => hb ⟨Classical.byContradiction (fun y => c17 (by rw [fb_lt]; rw [fb_le] at y; omega)), z⟩)) (fun _ => ?_)
    refine k_X7_64 dX7_piece_25 ?_
    exact xt_iret dX7_piece_27 rfl (lb rfl) (lb rfl) ⟨rfl, ⟨hI, FM_rf⟩, rfl⟩
theorem NB0 {q r : Nat → Int32} {bz : Int32} (h : NB q bz r) (hn : ¬ 0 ≤ r 5) : bz = 0 := by
  rcases h with z | z
  · exact z.1
  · exact absurd z.2.2.2.2.2.2.2.2.1 hn
theorem NB1 {q r : Nat → Int32} {bz : Int32} (h : NB q bz r) (hn : 0 ≤ r 5) : (¬ bz = 0) ∧ NQ q r := by
  rcases h with z | z
  · exact absurd hn (neg_m1 z.2)
  · exact ⟨by rw [z.1]; decide, z.2⟩
theorem NBc {q r : Nat → Int32} {bz : Int32} (h : NB q bz r) : (if bz = 0 then (0 : Int32) else 1) = if 0 ≤ r 5 then 1 else 0 := by
  by_cases hn : 0 ≤ r 5
  · rw [if_neg (NB1 h hn).1, if_pos hn]
  · rw [if_pos (NB0 h hn), if_neg hn]
theorem m1_ge {m : Nat} (h : m ≤ 12) : ¬ nI m ≤ -1 := by
  rw [fb_le, nI_toInt (by omega), ti_m1]; omega
theorem hd01 {x : Int32} (h : x = 0 ∨ x = 1) : (if x = 0 then (0 : Int32) else 1) = x := by
  rcases h with z | z <;> rw [z] <;> rfl
theorem bo01 {v x : Int32} (h : v = if x = 0 then (1 : Int32) else 0) : v = 0 ∨ v = 1 := by
  rw [h]; split
  · exact Or.inr rfl
  · exact Or.inl rfl
theorem hd10 {x : Int32} (h : x = 0 ∨ x = 1) : (if x = 0 then (1 : Int32) else 0) = 1 - x := by
  rcases h with z | z <;> rw [z] <;> rfl
set_option maxHeartbeats 400000 in
set_option maxRecDepth 100000 in
theorem cr_X7_piece_n {h : ax_H} {n : Nat} {r : Nat → Int32} {m : Nat} {R : Nat → Nat → Int32} {u : Nat} {im iu : Int32} {Wi : Nat → Nat → Int32} {t : Nat} {tp mn la : Nat → Int32} {it : Nat → Int64} (hI : CB h r m R u im iu Wi t tp mn la it) (b : Nat) (hb : b ≤ 4) (hn : ¬ 0 ≤ r 5) : ax_C yX7_piece cX7_piece 3 (some .int) 4 0 0 [.ref 0, .int (-1), .int (nI b)] h n (kE ((-1000004)) (fun h2 => CB h2 r m R u im iu Wi t tp mn la it ∧ FM n h h2) n) := by
  refine ax_C.go RX7 "piece" [some (.ref 0), some (.int (-1)), some (.int (nI b))] rfl rfl pn_X7 (lb rfl) rfl (fun l G cy bs => ?_)
  obtain ⟨a0, hS, hA, hW, hRd, hG, hM, hH⟩ := (id hI : CB h _ _ _ _ _ _ _ _ _ _ _ _)
  obtain ⟨sp, pi, pp, nw, bz, hd, dw, k1, hP, ⟨s1, s2, s3, s4, s5, s6⟩, k4⟩ := (id hS : SR h 1 _ _)
  obtain ⟨⟨fs1, o1⟩, o17, ⟨fs6, o115⟩, hu6, hm12⟩ := CB.o hI
  have hbz := s5.b
  have him := hM.b
  refine il1 dX7_piece_0 ?_
  refine xt_iconst (-1) dX7_piece_1 rfl ?_
  refine xt_icmp_lt 25 dX7_piece_2 rfl (fun q => absurd q (by decide)) (fun _ => ?_)
  refine il1 dX7_piece_5 ?_
  refine al0 dX7_piece_6 ?_
  refine g_X7_12 dX7_piece_7 a0 ?_
  refine g_X7_68 dX7_piece_10 k1.1 ?_
  refine xt_icmp_ge 25 dX7_piece_13 rfl (fun q => absurd q (m1_ge hm12)) (fun _ => ?_)
  refine il2 dX7_piece_16 ?_
  refine xt_if_lt 25 dX7_piece_17 rfl (fun q => absurd q (nI_pos (by omega))) (fun _ => ?_)
  refine il2 dX7_piece_20 ?_
  refine xt_iconst (4) dX7_piece_21 rfl ?_
  refine xt_icmp_le 28 dX7_piece_22 rfl (fun _ => ?_) (fun q => absurd (nI_le (b := 4) (by omega) (by decide)) q)
  refine il1 dX7_piece_28 ?_
  refine xt_if_lt 46 dX7_piece_29 rfl (fun _ => ?_) (fun q => absurd (by decide) q)
  refine al0 dX7_piece_46 ?_
  refine g_X7_12 dX7_piece_47 a0 ?_
  refine g_X7_80 dX7_piece_50 k1.1 ?_
  refine xt_if_eq 70 dX7_piece_53 rfl (fun _ => ?_) (fun q => absurd (NB0 s5 hn) q)
  refine k_X7_87 dX7_piece_70 ?_
  exact xt_iret dX7_piece_72 rfl (lb rfl) (lb rfl) ⟨rfl, ⟨hI, FM_rf⟩, rfl⟩
theorem NQ_at {q r : Nat → Int32} (h : NQ q r) {j : Nat} (hj : j < 4) : q j = r (5 + j) := by
  obtain ⟨h0, h1, h2, h3, -⟩ := h
  rcases (show j = 0 ∨ j = 1 ∨ j = 2 ∨ j = 3 by omega) with rfl | rfl | rfl | rfl
  · exact h0
  · exact h1
  · exact h2
  · exact h3
theorem tl_at (r : Nat → Int32) (k : Nat) {j : Nat} (hj : j < 4) : tlR r k j = r (13 + 4 * k + j) := by
  rcases (show j = 0 ∨ j = 1 ∨ j = 2 ∨ j = 3 by omega) with rfl | rfl | rfl | rfl <;> rfl
set_option maxHeartbeats 400000 in
set_option maxRecDepth 100000 in
theorem cr_X7_piece_w {h : ax_H} {n : Nat} {r : Nat → Int32} {m : Nat} {R : Nat → Nat → Int32} {u : Nat} {im iu : Int32} {Wi : Nat → Nat → Int32} {t : Nat} {tp mn la : Nat → Int32} {it : Nat → Int64} (hI : CB h r m R u im iu Wi t tp mn la it) (b : Nat) (hb : b < 4) (hn : 0 ≤ r 5) : ax_C yX7_piece cX7_piece 3 (some .int) 4 0 0 [.ref 0, .int (-1), .int (nI b)] h n (kE (r (5 + b)) (fun h2 => CB h2 r m R u im iu Wi t tp mn la it ∧ FM n h h2) n) := by
  refine ax_C.go RX7 "piece" [some (.ref 0), some (.int (-1)), some (.int (nI b))] rfl rfl pn_X7 (lb rfl) rfl (fun l G cy bs => ?_)
  obtain ⟨a0, hS, hA, hW, hRd, hG, hM, hH⟩ := (id hI : CB h _ _ _ _ _ _ _ _ _ _ _ _)
  obtain ⟨sp, pi, pp, nw, bz, hd, dw, k1, hP, ⟨s1, s2, s3, s4, s5, s6⟩, k4⟩ := (id hS : SR h 1 _ _)
  obtain ⟨⟨fs1, o1⟩, o17, ⟨fs6, o115⟩, hu6, hm12⟩ := CB.o hI
  have hbz := s5.b
  have him := hM.b
  refine il1 dX7_piece_0 ?_
  refine xt_iconst (-1) dX7_piece_1 rfl ?_
  refine xt_icmp_lt 25 dX7_piece_2 rfl (fun q => absurd q (by decide)) (fun _ => ?_)
  refine il1 dX7_piece_5 ?_
  refine al0 dX7_piece_6 ?_
  refine g_X7_12 dX7_piece_7 a0 ?_
  refine g_X7_68 dX7_piece_10 k1.1 ?_
  refine xt_icmp_ge 25 dX7_piece_13 rfl (fun q => absurd q (m1_ge hm12)) (fun _ => ?_)
  refine il2 dX7_piece_16 ?_
  refine xt_if_lt 25 dX7_piece_17 rfl (fun q => absurd q (nI_pos (by omega))) (fun _ => ?_)
  refine il2 dX7_piece_20 ?_
  refine xt_iconst (4) dX7_piece_21 rfl ?_
  refine xt_icmp_le 28 dX7_piece_22 rfl (fun _ => ?_) (fun q => absurd (nI_le (b := 4) (by omega) (by decide)) q)
  refine il1 dX7_piece_28 ?_
  refine xt_if_lt 46 dX7_piece_29 rfl (fun _ => ?_) (fun q => absurd (by decide) q)
  refine al0 dX7_piece_46 ?_
  refine g_X7_12 dX7_piece_47 a0 ?_
  refine g_X7_80 dX7_piece_50 k1.1 ?_
  refine xt_if_eq 70 dX7_piece_53 rfl (fun q => absurd q (NB1 s5 hn).1) (fun _ => ?_)
  refine al0 dX7_piece_56 ?_
  refine g_X7_12 dX7_piece_57 a0 ?_
  refine g_X7_83 dX7_piece_60 k1.1 ?_
  refine il2 dX7_piece_63 ?_
  refine s_X7_76 dX7_piece_64 (cn_X7_detail k1.2.2.2.1 b hb) ⟨lb rfl, lb rfl, lb rfl, lb rfl⟩ ?_
  refine xt_goto 72 dX7_piece_67 rfl ?_
  exact xt_iret dX7_piece_72 rfl (lb rfl) (lb rfl) ⟨by rw [NQ_at (NB1 s5 hn).2 hb], ⟨hI, FM_rf⟩, rfl⟩
set_option maxHeartbeats 400000 in
set_option maxRecDepth 100000 in
theorem cr_X7_piece_s {h : ax_H} {n : Nat} {r : Nat → Int32} {m : Nat} {R : Nat → Nat → Int32} {u : Nat} {im iu : Int32} {Wi : Nat → Nat → Int32} {t : Nat} {tp mn la : Nat → Int32} {it : Nat → Int64} (hI : CB h r m R u im iu Wi t tp mn la it) (hn : 0 ≤ r 5) : ax_C yX7_piece cX7_piece 3 (some .int) 4 0 0 [.ref 0, .int (-1), .int (nI 4)] h n (kE (sNow r) (fun h2 => CB h2 r m R u im iu Wi t tp mn la it ∧ FM n h h2) n) := by
  refine ax_C.go RX7 "piece" [some (.ref 0), some (.int (-1)), some (.int (nI 4))] rfl rfl pn_X7 (lb rfl) rfl (fun l G cy bs => ?_)
  obtain ⟨a0, hS, hA, hW, hRd, hG, hM, hH⟩ := (id hI : CB h _ _ _ _ _ _ _ _ _ _ _ _)
  obtain ⟨sp, pi, pp, nw, bz, hd, dw, k1, hP, ⟨s1, s2, s3, s4, s5, s6⟩, k4⟩ := (id hS : SR h 1 _ _)
  obtain ⟨⟨fs1, o1⟩, o17, ⟨fs6, o115⟩, hu6, hm12⟩ := CB.o hI
  have hbz := s5.b
  have him := hM.b
  refine il1 dX7_piece_0 ?_
  refine xt_iconst (-1) dX7_piece_1 rfl ?_
  refine xt_icmp_lt 25 dX7_piece_2 rfl (fun q => absurd q (by decide)) (fun _ => ?_)
  refine il1 dX7_piece_5 ?_
  refine al0 dX7_piece_6 ?_
  refine g_X7_12 dX7_piece_7 a0 ?_
  refine g_X7_68 dX7_piece_10 k1.1 ?_
  refine xt_icmp_ge 25 dX7_piece_13 rfl (fun q => absurd q (m1_ge hm12)) (fun _ => ?_)
  refine il2 dX7_piece_16 ?_
  refine xt_if_lt 25 dX7_piece_17 rfl (fun q => absurd q (by decide)) (fun _ => ?_)
  refine il2 dX7_piece_20 ?_
  refine xt_iconst (4) dX7_piece_21 rfl ?_
  refine xt_icmp_le 28 dX7_piece_22 rfl (fun _ => ?_) (fun q => absurd (by decide) q)
  refine il1 dX7_piece_28 ?_
  refine xt_if_lt 46 dX7_piece_29 rfl (fun _ => ?_) (fun q => absurd (by decide) q)
  refine al0 dX7_piece_46 ?_
  refine g_X7_12 dX7_piece_47 a0 ?_
  refine g_X7_80 dX7_piece_50 k1.1 ?_
  refine xt_if_eq 70 dX7_piece_53 rfl (fun q => absurd q (NB1 s5 hn).1) (fun _ => ?_)
  refine al0 dX7_piece_56 ?_
  refine g_X7_12 dX7_piece_57 a0 ?_
  refine g_X7_83 dX7_piece_60 k1.1 ?_
  refine il2 dX7_piece_63 ?_
  refine s_X7_76 dX7_piece_64 (cn_X7_detail4 k1.2.2.2.1) ⟨lb rfl, lb rfl, lb rfl, lb rfl⟩ ?_
  refine xt_goto 72 dX7_piece_67 rfl ?_
  exact xt_iret dX7_piece_72 rfl (lb rfl) (lb rfl) ⟨by rw [remQ_ok (NB1 s5 hn).2 (now_ok k4 hn)], ⟨hI, FM_rf⟩, rfl⟩
set_option maxHeartbeats 400000 in
set_option maxRecDepth 100000 in
theorem cr_X7_piece_r {h : ax_H} {n : Nat} {r : Nat → Int32} {m : Nat} {R : Nat → Nat → Int32} {u : Nat} {im iu : Int32} {Wi : Nat → Nat → Int32} {t : Nat} {tp mn la : Nat → Int32} {it : Nat → Int64} (hI : CB h r m R u im iu Wi t tp mn la it) (j b : Nat) (hj : j < m) (hb : b < 4) : ax_C yX7_piece cX7_piece 3 (some .int) 4 0 0 [.ref 0, .int (nI j), .int (nI b)] h n (kE (r (13 + 4 * j + b)) (fun h2 => CB h2 r m R u im iu Wi t tp mn la it ∧ FM n h h2) n) := by
  refine ax_C.go RX7 "piece" [some (.ref 0), some (.int (nI j)), some (.int (nI b))] rfl rfl pn_X7 (lb rfl) rfl (fun l G cy bs => ?_)
  obtain ⟨a0, hS, hA, hW, hRd, hG, hM, hH⟩ := (id hI : CB h _ _ _ _ _ _ _ _ _ _ _ _)
  obtain ⟨sp, pi, pp, nw, bz, hd, dw, k1, hP, ⟨s1, s2, s3, s4, s5, s6⟩, k4⟩ := (id hS : SR h 1 _ _)
  obtain ⟨⟨fs1, o1⟩, o17, ⟨fs6, o115⟩, hu6, hm12⟩ := CB.o hI
  have hbz := s5.b
  have him := hM.b
  refine il1 dX7_piece_0 ?_
  refine xt_iconst (-1) dX7_piece_1 rfl ?_
  refine xt_icmp_lt 25 dX7_piece_2 rfl (fun q => absurd q (fun z => lt_m1.mp z (Int32.le_trans (by decide) (nI_pos' (n := j) (by omega))))) (fun _ => ?_)
  refine il1 dX7_piece_5 ?_
  refine al0 dX7_piece_6 ?_
  refine g_X7_12 dX7_piece_7 a0 ?_
  refine g_X7_68 dX7_piece_10 k1.1 ?_
  refine xt_icmp_ge 25 dX7_piece_13 rfl (fun q => absurd q (nI_ge (by omega) (by omega))) (fun _ => ?_)
  refine il2 dX7_piece_16 ?_
  refine xt_if_lt 25 dX7_piece_17 rfl (fun q => absurd q (nI_pos (by omega))) (fun _ => ?_)
  refine il2 dX7_piece_20 ?_
  refine xt_iconst (4) dX7_piece_21 rfl ?_
  refine xt_icmp_le 28 dX7_piece_22 rfl (fun _ => ?_) (fun q => absurd (nI_le (b := 4) (by omega) (by decide)) q)
  refine il1 dX7_piece_28 ?_
  refine xt_if_lt 46 dX7_piece_29 rfl (fun q => absurd q (nI_pos (by omega))) (fun _ => ?_)
  refine al0 dX7_piece_32 ?_
  refine g_X7_12 dX7_piece_33 a0 ?_
  refine g_X7_72 dX7_piece_36 k1.1 ?_
  refine il1 dX7_piece_39 ?_
  refine xt_aald3 (j) k1.2.2.1 (by omega) rfl (by decide) rfl dX7_piece_40 ?_
  refine il2 dX7_piece_41 ?_
  refine s_X7_76 dX7_piece_42 (cn_X7_detail (k1.2.2.2.2 (pi (j)) (hP.1 _ (by omega))) b hb) ⟨lb rfl, lb rfl, lb rfl, lb rfl⟩ ?_
  exact xt_iret dX7_piece_45 rfl (lb rfl) (lb rfl) ⟨by rw [s4 j hj b (by omega), tl_at r j hb], ⟨hI, FM_rf⟩, rfl⟩
set_option maxHeartbeats 400000 in
set_option maxRecDepth 100000 in
theorem cr_X7_piece_t {h : ax_H} {n : Nat} {r : Nat → Int32} {m : Nat} {R : Nat → Nat → Int32} {u : Nat} {im iu : Int32} {Wi : Nat → Nat → Int32} {t : Nat} {tp mn la : Nat → Int32} {it : Nat → Int64} (hI : CB h r m R u im iu Wi t tp mn la it) (j : Nat) (hj : j < m) : ax_C yX7_piece cX7_piece 3 (some .int) 4 0 0 [.ref 0, .int (nI j), .int (nI 4)] h n (kE (sAt r (13 + 4 * j)) (fun h2 => CB h2 r m R u im iu Wi t tp mn la it ∧ FM n h h2) n) := by
  refine ax_C.go RX7 "piece" [some (.ref 0), some (.int (nI j)), some (.int (nI 4))] rfl rfl pn_X7 (lb rfl) rfl (fun l G cy bs => ?_)
  obtain ⟨a0, hS, hA, hW, hRd, hG, hM, hH⟩ := (id hI : CB h _ _ _ _ _ _ _ _ _ _ _ _)
  obtain ⟨sp, pi, pp, nw, bz, hd, dw, k1, hP, ⟨s1, s2, s3, s4, s5, s6⟩, k4⟩ := (id hS : SR h 1 _ _)
  obtain ⟨⟨fs1, o1⟩, o17, ⟨fs6, o115⟩, hu6, hm12⟩ := CB.o hI
  have hbz := s5.b
  have him := hM.b
  refine il1 dX7_piece_0 ?_
  refine xt_iconst (-1) dX7_piece_1 rfl ?_
  refine xt_icmp_lt 25 dX7_piece_2 rfl (fun q => absurd q (fun z => lt_m1.mp z (Int32.le_trans (by decide) (nI_pos' (n := j) (by omega))))) (fun _ => ?_)
  refine il1 dX7_piece_5 ?_
  refine al0 dX7_piece_6 ?_
  refine g_X7_12 dX7_piece_7 a0 ?_
  refine g_X7_68 dX7_piece_10 k1.1 ?_
  refine xt_icmp_ge 25 dX7_piece_13 rfl (fun q => absurd q (nI_ge (by omega) (by omega))) (fun _ => ?_)
  refine il2 dX7_piece_16 ?_
  refine xt_if_lt 25 dX7_piece_17 rfl (fun q => absurd q (by decide)) (fun _ => ?_)
  refine il2 dX7_piece_20 ?_
  refine xt_iconst (4) dX7_piece_21 rfl ?_
  refine xt_icmp_le 28 dX7_piece_22 rfl (fun _ => ?_) (fun q => absurd (by decide) q)
  refine il1 dX7_piece_28 ?_
  refine xt_if_lt 46 dX7_piece_29 rfl (fun q => absurd q (nI_pos (by omega))) (fun _ => ?_)
  refine al0 dX7_piece_32 ?_
  refine g_X7_12 dX7_piece_33 a0 ?_
  refine g_X7_72 dX7_piece_36 k1.1 ?_
  refine il1 dX7_piece_39 ?_
  refine xt_aald3 (j) k1.2.2.1 (by omega) rfl (by decide) rfl dX7_piece_40 ?_
  refine il2 dX7_piece_41 ?_
  refine s_X7_76 dX7_piece_42 (cn_X7_detail4 (k1.2.2.2.2 (pi (j)) (hP.1 _ (by omega)))) ⟨lb rfl, lb rfl, lb rfl, lb rfl⟩ ?_
  exact xt_iret dX7_piece_45 rfl (lb rfl) (lb rfl) ⟨by rw [remQ_congr (s4 j hj), remQ_tl (k4.1.2.2 j hj)]; rfl, ⟨hI, FM_rf⟩, rfl⟩
set_option maxHeartbeats 400000 in
set_option maxRecDepth 100000 in
theorem cr_X7_count0 {h : ax_H} {n : Nat} {r : Nat → Int32} {m : Nat} {R : Nat → Nat → Int32} {u : Nat} {im iu : Int32} {Wi : Nat → Nat → Int32} {t : Nat} {tp mn la : Nat → Int32} {it : Nat → Int64} (hI : CB h r m R u im iu Wi t tp mn la it)  : ax_C yX7_count cX7_count 2 (some .int) 4 0 0 [.ref 0, .int 0] h n (kE (r 12) (fun h2 => CB h2 r m R u im iu Wi t tp mn la it ∧ FM n h h2) n) := by
  refine ax_C.go RX7 "count" [some (.ref 0), some (.int 0)] rfl rfl pn_X7 (lb rfl) rfl (fun l G cy bs => ?_)
  obtain ⟨a0, hS, hA, hW, hRd, hG, hM, hH⟩ := (id hI : CB h _ _ _ _ _ _ _ _ _ _ _ _)
  obtain ⟨sp, pi, pp, nw, bz, hd, dw, k1, hP, ⟨s1, s2, s3, s4, s5, s6⟩, k4⟩ := (id hS : SR h 1 _ _)
  obtain ⟨⟨fs1, o1⟩, o17, ⟨fs6, o115⟩, hu6, hm12⟩ := CB.o hI
  have hbz := s5.b
  have him := hM.b
  refine il1 dX7_count_0 ?_
  refine xt_tableIn (off := 39) 40 dX7_count_1 (by decide) (by decide) (by decide) rfl ?_
  refine al0 dX7_count_40 ?_
  refine g_X7_12 dX7_count_41 a0 ?_
  refine g_X7_68 dX7_count_44 k1.1 ?_
  exact xt_iret dX7_count_47 rfl (lb rfl) (lb rfl) ⟨by rw [k4.1.1], ⟨hI, FM_rf⟩, rfl⟩
set_option maxHeartbeats 400000 in
set_option maxRecDepth 100000 in
theorem cr_X7_count1 {h : ax_H} {n : Nat} {r : Nat → Int32} {m : Nat} {R : Nat → Nat → Int32} {u : Nat} {im iu : Int32} {Wi : Nat → Nat → Int32} {t : Nat} {tp mn la : Nat → Int32} {it : Nat → Int64} (hI : CB h r m R u im iu Wi t tp mn la it)  : ax_C yX7_count cX7_count 2 (some .int) 4 0 0 [.ref 0, .int 1] h n (kE (if 0 ≤ r 5 then 1 else 0) (fun h2 => CB h2 r m R u im iu Wi t tp mn la it ∧ FM n h h2) n) := by
  refine ax_C.go RX7 "count" [some (.ref 0), some (.int 1)] rfl rfl pn_X7 (lb rfl) rfl (fun l G cy bs => ?_)
  obtain ⟨a0, hS, hA, hW, hRd, hG, hM, hH⟩ := (id hI : CB h _ _ _ _ _ _ _ _ _ _ _ _)
  obtain ⟨sp, pi, pp, nw, bz, hd, dw, k1, hP, ⟨s1, s2, s3, s4, s5, s6⟩, k4⟩ := (id hS : SR h 1 _ _)
  obtain ⟨⟨fs1, o1⟩, o17, ⟨fs6, o115⟩, hu6, hm12⟩ := CB.o hI
  have hbz := s5.b
  have him := hM.b
  refine il1 dX7_count_0 ?_
  refine xt_tableIn (off := 47) 48 dX7_count_1 (by decide) (by decide) (by decide) rfl ?_
  refine al0 dX7_count_48 ?_
  refine g_X7_12 dX7_count_49 a0 ?_
  refine g_X7_80 dX7_count_52 k1.1 ?_
  apply xj_if_eq 62 dX7_count_55 rfl
  · intro k55
    refine ⟨fun c55 => ?_, fun c55 => ?_⟩
    · refine xt_iconst (0) dX7_count_62 rfl ?_
      exact xt_it1 k55 c55
    · refine xt_iconst (1) dX7_count_58 rfl ?_
      refine xt_goto 63 dX7_count_59 rfl ?_
      exact xt_it2 k55 c55
  · skip
    exact xt_iret dX7_count_63 rfl (lb rfl) (lb rfl) ⟨by rw [NBc s5], ⟨hI, FM_rf⟩, rfl⟩
set_option maxHeartbeats 400000 in
set_option maxRecDepth 100000 in
theorem cr_X7_count2 {h : ax_H} {n : Nat} {r : Nat → Int32} {m : Nat} {R : Nat → Nat → Int32} {u : Nat} {im iu : Int32} {Wi : Nat → Nat → Int32} {t : Nat} {tp mn la : Nat → Int32} {it : Nat → Int64} (hI : CB h r m R u im iu Wi t tp mn la it)  : ax_C yX7_count cX7_count 2 (some .int) 4 0 0 [.ref 0, .int 2] h n (kE (r 3) (fun h2 => CB h2 r m R u im iu Wi t tp mn la it ∧ FM n h h2) n) := by
  refine ax_C.go RX7 "count" [some (.ref 0), some (.int 2)] rfl rfl pn_X7 (lb rfl) rfl (fun l G cy bs => ?_)
  obtain ⟨a0, hS, hA, hW, hRd, hG, hM, hH⟩ := (id hI : CB h _ _ _ _ _ _ _ _ _ _ _ _)
  obtain ⟨sp, pi, pp, nw, bz, hd, dw, k1, hP, ⟨s1, s2, s3, s4, s5, s6⟩, k4⟩ := (id hS : SR h 1 _ _)
  obtain ⟨⟨fs1, o1⟩, o17, ⟨fs6, o115⟩, hu6, hm12⟩ := CB.o hI
  have hbz := s5.b
  have him := hM.b
  refine il1 dX7_count_0 ?_
  refine xt_tableIn (off := 63) 64 dX7_count_1 (by decide) (by decide) (by decide) rfl ?_
  refine al0 dX7_count_64 ?_
  refine g_X7_12 dX7_count_65 a0 ?_
  refine g_X7_134 dX7_count_68 k1.1 ?_
  apply xj_if_eq 78 dX7_count_71 rfl
  · intro k71
    refine ⟨fun c71 => ?_, fun c71 => ?_⟩
    · refine xt_iconst (0) dX7_count_78 rfl ?_
      exact xt_it1 k71 c71
    · refine xt_iconst (1) dX7_count_74 rfl ?_
      refine xt_goto 79 dX7_count_75 rfl ?_
      exact xt_it2 k71 c71
  · skip
    exact xt_iret dX7_count_79 rfl (lb rfl) (lb rfl) ⟨by rw [hd01 s6, s2], ⟨hI, FM_rf⟩, rfl⟩
set_option maxHeartbeats 400000 in
set_option maxRecDepth 100000 in
theorem cr_X7_count3 {h : ax_H} {n : Nat} {r : Nat → Int32} {m : Nat} {R : Nat → Nat → Int32} {u : Nat} {im iu : Int32} {Wi : Nat → Nat → Int32} {t : Nat} {tp mn la : Nat → Int32} {it : Nat → Int64} (hI : CB h r m R u im iu Wi t tp mn la it)  : ax_C yX7_count cX7_count 2 (some .int) 4 0 0 [.ref 0, .int 3] h n (kE (sLeft r m) (fun h2 => CB h2 r m R u im iu Wi t tp mn la it ∧ FM n h h2) n) := by
  refine ax_C.go RX7 "count" [some (.ref 0), some (.int 3)] rfl rfl pn_X7 (lb rfl) rfl (fun l G cy bs => ?_)
  obtain ⟨a0, hS, hA, hW, hRd, hG, hM, hH⟩ := (id hI : CB h _ _ _ _ _ _ _ _ _ _ _ _)
  obtain ⟨sp, pi, pp, nw, bz, hd, dw, k1, hP, ⟨s1, s2, s3, s4, s5, s6⟩, k4⟩ := (id hS : SR h 1 _ _)
  obtain ⟨⟨fs1, o1⟩, o17, ⟨fs6, o115⟩, hu6, hm12⟩ := CB.o hI
  have hbz := s5.b
  have him := hM.b
  refine il1 dX7_count_0 ?_
  refine xt_tableIn (off := 79) 80 dX7_count_1 (by decide) (by decide) (by decide) rfl ?_
  refine al0 dX7_count_80 ?_
  refine g_X7_12 dX7_count_81 a0 ?_
  refine s_X7_137 dX7_count_84 (cr_X5_remaining hS) k1.1 ⟨lb rfl, lb rfl, lb rfl, lb rfl⟩ ?_
  exact xt_iret dX7_count_87 rfl (lb rfl) (lb rfl) ⟨rfl, ⟨hI, FM_rf⟩, rfl⟩
set_option maxHeartbeats 400000 in
set_option maxRecDepth 100000 in
theorem cr_X7_count4 {h : ax_H} {n : Nat} {r : Nat → Int32} {m : Nat} {R : Nat → Nat → Int32} {u : Nat} {im iu : Int32} {Wi : Nat → Nat → Int32} {t : Nat} {tp mn la : Nat → Int32} {it : Nat → Int64} (hI : CB h r m R u im iu Wi t tp mn la it)  : ax_C yX7_count cX7_count 2 (some .int) 4 0 0 [.ref 0, .int 4] h n (kE (kdS r m) (fun h2 => CB h2 r m R u im iu Wi t tp mn la it ∧ FM n h h2) n) := by
  refine ax_C.go RX7 "count" [some (.ref 0), some (.int 4)] rfl rfl pn_X7 (lb rfl) rfl (fun l G cy bs => ?_)
  obtain ⟨a0, hS, hA, hW, hRd, hG, hM, hH⟩ := (id hI : CB h _ _ _ _ _ _ _ _ _ _ _ _)
  obtain ⟨sp, pi, pp, nw, bz, hd, dw, k1, hP, ⟨s1, s2, s3, s4, s5, s6⟩, k4⟩ := (id hS : SR h 1 _ _)
  obtain ⟨⟨fs1, o1⟩, o17, ⟨fs6, o115⟩, hu6, hm12⟩ := CB.o hI
  have hbz := s5.b
  have him := hM.b
  refine il1 dX7_count_0 ?_
  refine xt_tableIn (off := 87) 88 dX7_count_1 (by decide) (by decide) (by decide) rfl ?_
  refine al0 dX7_count_88 ?_
  refine g_X7_12 dX7_count_89 a0 ?_
  refine s_X7_141 dX7_count_92 (cr_X5_kinds hS) k1.1 ⟨lb rfl, lb rfl, lb rfl, lb rfl⟩ ?_
  exact xt_iret dX7_count_95 rfl (lb rfl) (lb rfl) ⟨rfl, ⟨hI, FM_rf⟩, rfl⟩
set_option maxHeartbeats 400000 in
set_option maxRecDepth 100000 in
theorem cr_X7_count5 {h : ax_H} {n : Nat} {r : Nat → Int32} {m : Nat} {R : Nat → Nat → Int32} {u : Nat} {im iu : Int32} {Wi : Nat → Nat → Int32} {t : Nat} {tp mn la : Nat → Int32} {it : Nat → Int64} (hI : CB h r m R u im iu Wi t tp mn la it)  : ax_C yX7_count cX7_count 2 (some .int) 4 0 0 [.ref 0, .int 5] h n (kE (nI u) (fun h2 => CB h2 r m R u im iu Wi t tp mn la it ∧ FM n h h2) n) := by
  refine ax_C.go RX7 "count" [some (.ref 0), some (.int 5)] rfl rfl pn_X7 (lb rfl) rfl (fun l G cy bs => ?_)
  obtain ⟨a0, hS, hA, hW, hRd, hG, hM, hH⟩ := (id hI : CB h _ _ _ _ _ _ _ _ _ _ _ _)
  obtain ⟨sp, pi, pp, nw, bz, hd, dw, k1, hP, ⟨s1, s2, s3, s4, s5, s6⟩, k4⟩ := (id hS : SR h 1 _ _)
  obtain ⟨⟨fs1, o1⟩, o17, ⟨fs6, o115⟩, hu6, hm12⟩ := CB.o hI
  have hbz := s5.b
  have him := hM.b
  refine il1 dX7_count_0 ?_
  refine xt_tableIn (off := 95) 96 dX7_count_1 (by decide) (by decide) (by decide) rfl ?_
  refine al0 dX7_count_96 ?_
  refine g_X7_19 dX7_count_97 a0 ?_
  refine g_X7_131 dX7_count_100 o17 ?_
  exact xt_iret dX7_count_103 rfl (lb rfl) (lb rfl) ⟨rfl, ⟨hI, FM_rf⟩, rfl⟩
set_option maxHeartbeats 400000 in
set_option maxRecDepth 100000 in
theorem cr_X7_count_b {h : ax_H} {n : Nat} {r : Nat → Int32} {m : Nat} {R : Nat → Nat → Int32} {u : Nat} {im iu : Int32} {Wi : Nat → Nat → Int32} {t : Nat} {tp mn la : Nat → Int32} {it : Nat → Int64} (hI : CB h r m R u im iu Wi t tp mn la it) (x : Int32) (hx : x.toInt < 0 ∨ 5 < x.toInt) : ax_C yX7_count cX7_count 2 (some .int) 4 0 0 [.ref 0, .int x] h n (kE ((-1000001)) (fun h2 => CB h2 r m R u im iu Wi t tp mn la it ∧ FM n h h2) n) := by
  refine ax_C.go RX7 "count" [some (.ref 0), some (.int x)] rfl rfl pn_X7 (lb rfl) rfl (fun l G cy bs => ?_)
  obtain ⟨a0, hS, hA, hW, hRd, hG, hM, hH⟩ := (id hI : CB h _ _ _ _ _ _ _ _ _ _ _ _)
  obtain ⟨sp, pi, pp, nw, bz, hd, dw, k1, hP, ⟨s1, s2, s3, s4, s5, s6⟩, k4⟩ := (id hS : SR h 1 _ _)
  obtain ⟨⟨fs1, o1⟩, o17, ⟨fs6, o115⟩, hu6, hm12⟩ := CB.o hI
  have hbz := s5.b
  have him := hM.b
  refine il1 dX7_count_0 ?_
  refine xt_tableOut 104 dX7_count_1 hx rfl ?_
  refine k_X7_64 dX7_count_104 ?_
  exact xt_iret dX7_count_106 rfl (lb rfl) (lb rfl) ⟨rfl, ⟨hI, FM_rf⟩, rfl⟩
set_option maxHeartbeats 400000 in
set_option maxRecDepth 100000 in
theorem cr_X7_push_b {h : ax_H} {n : Nat} {r : Nat → Int32} {m : Nat} {R : Nat → Nat → Int32} {u : Nat} {im iu : Int32} {Wi : Nat → Nat → Int32} {t : Nat} {tp mn la : Nat → Int32} {it : Nat → Int64} (hI : CB h r m R u im iu Wi t tp mn la it) (k a b c : Int32) (hp0 : ¬ okP k a b c) : ax_C yX7_push cX7_push 6 (some .int) 3 0 0 [.ref 0, .int k, .int a, .int b, .int c] h n (kE ((-1000001)) (fun h2 => CB h2 r m R u im iu Wi t tp mn la it ∧ FM n h h2) n) := by
  refine ax_C.go RX7 "push" [some (.ref 0), some (.int k), some (.int a), some (.int b), some (.int c), none] rfl rfl pn_X7 (lb rfl) rfl (fun l G cy bs => ?_)
  obtain ⟨a0, hS, hA, hW, hRd, hG, hM, hH⟩ := (id hI : CB h _ _ _ _ _ _ _ _ _ _ _ _)
  obtain ⟨sp, pi, pp, nw, bz, hd, dw, k1, hP, ⟨s1, s2, s3, s4, s5, s6⟩, k4⟩ := (id hS : SR h 1 _ _)
  obtain ⟨⟨fs1, o1⟩, o17, ⟨fs6, o115⟩, hu6, hm12⟩ := CB.o hI
  have hbz := s5.b
  have him := hM.b
  refine al0 dX7_push_0 ?_
  refine il1 dX7_push_1 ?_
  refine il2 dX7_push_2 ?_
  refine il3 dX7_push_3 ?_
  refine il4 dX7_push_4 ?_
  refine s_X7_144 dX7_push_6 (cn_X7_ncr_b hI k a b c hp0) a0 ⟨lb rfl, lb rfl, lb rfl, lb rfl⟩ ?_
  refine is5 dX7_push_9 (by decide) rfl ?_
  refine il5 dX7_push_11 ?_
  refine xt_if_eq 19 dX7_push_13 rfl (fun q => absurd q (by decide)) (fun _ => ?_)
  refine il5 dX7_push_16 ?_
  exact xt_iret dX7_push_18 rfl (lb rfl) (lb rfl) ⟨rfl, ⟨hI, FM_rf⟩, rfl⟩
set_option maxHeartbeats 400000 in
set_option maxRecDepth 100000 in
theorem cr_X7_push_f {h : ax_H} {n : Nat} {r : Nat → Int32} {m : Nat} {R : Nat → Nat → Int32} {u : Nat} {im iu : Int32} {Wi : Nat → Nat → Int32} {t : Nat} {tp mn la : Nat → Int32} {it : Nat → Int64} (hI : CB h r m R u im iu Wi t tp mn la it) (k a b c : Int32) (hp0 : okP k a b c) (hm0 : m = 12) : ax_C yX7_push cX7_push 6 (some .int) 3 0 0 [.ref 0, .int k, .int a, .int b, .int c] h n (kE ((-1000003)) (fun h2 => CB h2 r m R u im iu Wi t tp mn la it ∧ FM n h h2) n) := by
  refine ax_C.go RX7 "push" [some (.ref 0), some (.int k), some (.int a), some (.int b), some (.int c), none] rfl rfl pn_X7 (lb rfl) rfl (fun l G cy bs => ?_)
  obtain ⟨a0, hS, hA, hW, hRd, hG, hM, hH⟩ := (id hI : CB h _ _ _ _ _ _ _ _ _ _ _ _)
  obtain ⟨sp, pi, pp, nw, bz, hd, dw, k1, hP, ⟨s1, s2, s3, s4, s5, s6⟩, k4⟩ := (id hS : SR h 1 _ _)
  obtain ⟨⟨fs1, o1⟩, o17, ⟨fs6, o115⟩, hu6, hm12⟩ := CB.o hI
  have hbz := s5.b
  have him := hM.b
  refine al0 dX7_push_0 ?_
  refine il1 dX7_push_1 ?_
  refine il2 dX7_push_2 ?_
  refine il3 dX7_push_3 ?_
  refine il4 dX7_push_4 ?_
  refine s_X7_144 dX7_push_6 (cn_X7_ncr_f hI k a b c hp0 hm0) a0 ⟨lb rfl, lb rfl, lb rfl, lb rfl⟩ ?_
  refine is5 dX7_push_9 (by decide) rfl ?_
  refine il5 dX7_push_11 ?_
  refine xt_if_eq 19 dX7_push_13 rfl (fun q => absurd q (by decide)) (fun _ => ?_)
  refine il5 dX7_push_16 ?_
  exact xt_iret dX7_push_18 rfl (lb rfl) (lb rfl) ⟨rfl, ⟨hI, FM_rf⟩, rfl⟩
set_option maxHeartbeats 400000 in
set_option maxRecDepth 100000 in
theorem cr_X7_push {h : ax_H} {n : Nat} {r : Nat → Int32} {m : Nat} {R : Nat → Nat → Int32} {u : Nat} {im iu : Int32} {Wi : Nat → Nat → Int32} {t : Nat} {tp mn la : Nat → Int32} {it : Nat → Int64} (hI : CB h r m R u im iu Wi t tp mn la it) (k a b c : Int32) (hp0 : okP k a b c) (hm0 : m < 12) : ax_C yX7_push cX7_push 6 (some .int) 3 0 0 [.ref 0, .int k, .int a, .int b, .int c] h n (kE (nI (m + 1)) (fun h2 => CB h2 (pushR r m k a b c) (m + 1) (kpR R u r) (mdU u) im iu Wi t tp mn la it ∧ FM n h h2) n) := by
  refine ax_C.go RX7 "push" [some (.ref 0), some (.int k), some (.int a), some (.int b), some (.int c), none] rfl rfl pn_X7 (lb rfl) rfl (fun l G cy bs => ?_)
  obtain ⟨a0, hS, hA, hW, hRd, hG, hM, hH⟩ := (id hI : CB h _ _ _ _ _ _ _ _ _ _ _ _)
  obtain ⟨sp, pi, pp, nw, bz, hd, dw, k1, hP, ⟨s1, s2, s3, s4, s5, s6⟩, k4⟩ := (id hS : SR h 1 _ _)
  obtain ⟨⟨fs1, o1⟩, o17, ⟨fs6, o115⟩, hu6, hm12⟩ := CB.o hI
  have hbz := s5.b
  have him := hM.b
  refine al0 dX7_push_0 ?_
  refine il1 dX7_push_1 ?_
  refine il2 dX7_push_2 ?_
  refine il3 dX7_push_3 ?_
  refine il4 dX7_push_4 ?_
  refine s_X7_144 dX7_push_6 (cn_X7_ncr hI k a b c hp0 hm0) a0 ⟨lb rfl, lb rfl, lb rfl, lb rfl⟩ ?_
  refine is5 dX7_push_9 (by decide) rfl ?_
  refine il5 dX7_push_11 ?_
  refine xt_if_eq 19 dX7_push_13 rfl (fun _ => ?_) (fun q => absurd rfl q)
  refine al0 dX7_push_19 ?_
  refine g_X7_19 dX7_push_20 a0 ?_
  refine al0 dX7_push_23 ?_
  refine g_X7_12 dX7_push_24 a0 ?_
  refine sP_X7_148 dX7_push_27 (cr_X1_keep hI.2.2.1 hI.2.1 (by omega)) o17 ⟨lb rfl, lb rfl, lb rfl, lb rfl⟩ ?_
  rintro h2 ⟨x12, x22⟩
  have hI2 := hI.pa x12 x22
  obtain ⟨a02, hS2, hA2, hW2, hRd2, hG2, hM2, hH2⟩ := (id hI2 : CB h2 _ _ _ _ _ _ _ _ _ _ _ _)
  obtain ⟨sp2, pi2, pp2, nw2, bz2, hd2, dw2, k12, hP2, ⟨s12, s22, s32, s42, s52, s62⟩, k42⟩ := (id hS2 : SR h2 1 _ _)
  obtain ⟨⟨fs12, o12⟩, o172, ⟨fs62, o1152⟩, hu62, hm122⟩ := CB.o hI2
  have hbz2 := s52.b
  have him2 := hM2.b
  refine al0 dX7_push_30 ?_
  refine g_X7_12 dX7_push_31 a02 ?_
  refine il1 dX7_push_34 ?_
  refine il2 dX7_push_35 ?_
  refine il3 dX7_push_36 ?_
  refine il4 dX7_push_37 ?_
  refine sP_X7_127 dX7_push_39 (cr_X5_addLast hI2.2.1 hm0 hp0) o12 ⟨lb rfl, lb rfl, lb rfl, lb rfl⟩ ?_
  rintro h3 ⟨x3, x4⟩
  have hI3 := hI2.st x3 x4
  obtain ⟨a03, hS3, hA3, hW3, hRd3, hG3, hM3, hH3⟩ := (id hI3 : CB h3 _ _ _ _ _ _ _ _ _ _ _ _)
  obtain ⟨sp3, pi3, pp3, nw3, bz3, hd3, dw3, k13, hP3, ⟨s13, s23, s33, s43, s53, s63⟩, k43⟩ := (id hS3 : SR h3 1 _ _)
  obtain ⟨⟨fs13, o13⟩, o173, ⟨fs63, o1153⟩, hu63, hm123⟩ := CB.o hI3
  have hbz3 := s53.b
  have him3 := hM3.b
  refine al0 dX7_push_42 ?_
  refine g_X7_12 dX7_push_43 a03 ?_
  refine g_X7_68 dX7_push_46 k13.1 ?_
  exact xt_iret dX7_push_49 rfl (lb rfl) (lb rfl) ⟨rfl, ⟨hI3, FM_tr (FM_fr (by omega) x22) (FM_fr (by omega) x4)⟩, rfl⟩
set_option maxHeartbeats 400000 in
set_option maxRecDepth 100000 in
theorem cr_X7_jump_b {h : ax_H} {n : Nat} {r : Nat → Int32} {m : Nat} {R : Nat → Nat → Int32} {u : Nat} {im iu : Int32} {Wi : Nat → Nat → Int32} {t : Nat} {tp mn la : Nat → Int32} {it : Nat → Int64} (hI : CB h r m R u im iu Wi t tp mn la it) (k a b c : Int32) (hp0 : ¬ okP k a b c) : ax_C yX7_jump cX7_jump 6 (some .int) 3 0 0 [.ref 0, .int k, .int a, .int b, .int c] h n (kE ((-1000001)) (fun h2 => CB h2 r m R u im iu Wi t tp mn la it ∧ FM n h h2) n) := by
  refine ax_C.go RX7 "jump" [some (.ref 0), some (.int k), some (.int a), some (.int b), some (.int c), none] rfl rfl pn_X7 (lb rfl) rfl (fun l G cy bs => ?_)
  obtain ⟨a0, hS, hA, hW, hRd, hG, hM, hH⟩ := (id hI : CB h _ _ _ _ _ _ _ _ _ _ _ _)
  obtain ⟨sp, pi, pp, nw, bz, hd, dw, k1, hP, ⟨s1, s2, s3, s4, s5, s6⟩, k4⟩ := (id hS : SR h 1 _ _)
  obtain ⟨⟨fs1, o1⟩, o17, ⟨fs6, o115⟩, hu6, hm12⟩ := CB.o hI
  have hbz := s5.b
  have him := hM.b
  refine al0 dX7_jump_0 ?_
  refine il1 dX7_jump_1 ?_
  refine il2 dX7_jump_2 ?_
  refine il3 dX7_jump_3 ?_
  refine il4 dX7_jump_4 ?_
  refine s_X7_144 dX7_jump_6 (cn_X7_ncr_b hI k a b c hp0) a0 ⟨lb rfl, lb rfl, lb rfl, lb rfl⟩ ?_
  refine is5 dX7_jump_9 (by decide) rfl ?_
  refine il5 dX7_jump_11 ?_
  refine xt_if_eq 19 dX7_jump_13 rfl (fun q => absurd q (by decide)) (fun _ => ?_)
  refine il5 dX7_jump_16 ?_
  exact xt_iret dX7_jump_18 rfl (lb rfl) (lb rfl) ⟨rfl, ⟨hI, FM_rf⟩, rfl⟩
set_option maxHeartbeats 400000 in
set_option maxRecDepth 100000 in
theorem cr_X7_jump_f {h : ax_H} {n : Nat} {r : Nat → Int32} {m : Nat} {R : Nat → Nat → Int32} {u : Nat} {im iu : Int32} {Wi : Nat → Nat → Int32} {t : Nat} {tp mn la : Nat → Int32} {it : Nat → Int64} (hI : CB h r m R u im iu Wi t tp mn la it) (k a b c : Int32) (hp0 : okP k a b c) (hm0 : m = 12) : ax_C yX7_jump cX7_jump 6 (some .int) 3 0 0 [.ref 0, .int k, .int a, .int b, .int c] h n (kE ((-1000003)) (fun h2 => CB h2 r m R u im iu Wi t tp mn la it ∧ FM n h h2) n) := by
  refine ax_C.go RX7 "jump" [some (.ref 0), some (.int k), some (.int a), some (.int b), some (.int c), none] rfl rfl pn_X7 (lb rfl) rfl (fun l G cy bs => ?_)
  obtain ⟨a0, hS, hA, hW, hRd, hG, hM, hH⟩ := (id hI : CB h _ _ _ _ _ _ _ _ _ _ _ _)
  obtain ⟨sp, pi, pp, nw, bz, hd, dw, k1, hP, ⟨s1, s2, s3, s4, s5, s6⟩, k4⟩ := (id hS : SR h 1 _ _)
  obtain ⟨⟨fs1, o1⟩, o17, ⟨fs6, o115⟩, hu6, hm12⟩ := CB.o hI
  have hbz := s5.b
  have him := hM.b
  refine al0 dX7_jump_0 ?_
  refine il1 dX7_jump_1 ?_
  refine il2 dX7_jump_2 ?_
  refine il3 dX7_jump_3 ?_
  refine il4 dX7_jump_4 ?_
  refine s_X7_144 dX7_jump_6 (cn_X7_ncr_f hI k a b c hp0 hm0) a0 ⟨lb rfl, lb rfl, lb rfl, lb rfl⟩ ?_
  refine is5 dX7_jump_9 (by decide) rfl ?_
  refine il5 dX7_jump_11 ?_
  refine xt_if_eq 19 dX7_jump_13 rfl (fun q => absurd q (by decide)) (fun _ => ?_)
  refine il5 dX7_jump_16 ?_
  exact xt_iret dX7_jump_18 rfl (lb rfl) (lb rfl) ⟨rfl, ⟨hI, FM_rf⟩, rfl⟩
set_option maxHeartbeats 400000 in
set_option maxRecDepth 100000 in
theorem cr_X7_jump {h : ax_H} {n : Nat} {r : Nat → Int32} {m : Nat} {R : Nat → Nat → Int32} {u : Nat} {im iu : Int32} {Wi : Nat → Nat → Int32} {t : Nat} {tp mn la : Nat → Int32} {it : Nat → Int64} (hI : CB h r m R u im iu Wi t tp mn la it) (k a b c : Int32) (hp0 : okP k a b c) (hm0 : m < 12) : ax_C yX7_jump cX7_jump 6 (some .int) 3 0 0 [.ref 0, .int k, .int a, .int b, .int c] h n (kE (nI (m + 1)) (fun h2 => CB h2 (jumpR r m k a b c) (m + 1) (kpR R u r) (mdU u) im iu Wi t tp mn la it ∧ FM n h h2) n) := by
  refine ax_C.go RX7 "jump" [some (.ref 0), some (.int k), some (.int a), some (.int b), some (.int c), none] rfl rfl pn_X7 (lb rfl) rfl (fun l G cy bs => ?_)
  obtain ⟨a0, hS, hA, hW, hRd, hG, hM, hH⟩ := (id hI : CB h _ _ _ _ _ _ _ _ _ _ _ _)
  obtain ⟨sp, pi, pp, nw, bz, hd, dw, k1, hP, ⟨s1, s2, s3, s4, s5, s6⟩, k4⟩ := (id hS : SR h 1 _ _)
  obtain ⟨⟨fs1, o1⟩, o17, ⟨fs6, o115⟩, hu6, hm12⟩ := CB.o hI
  have hbz := s5.b
  have him := hM.b
  refine al0 dX7_jump_0 ?_
  refine il1 dX7_jump_1 ?_
  refine il2 dX7_jump_2 ?_
  refine il3 dX7_jump_3 ?_
  refine il4 dX7_jump_4 ?_
  refine s_X7_144 dX7_jump_6 (cn_X7_ncr hI k a b c hp0 hm0) a0 ⟨lb rfl, lb rfl, lb rfl, lb rfl⟩ ?_
  refine is5 dX7_jump_9 (by decide) rfl ?_
  refine il5 dX7_jump_11 ?_
  refine xt_if_eq 19 dX7_jump_13 rfl (fun _ => ?_) (fun q => absurd rfl q)
  refine al0 dX7_jump_19 ?_
  refine g_X7_19 dX7_jump_20 a0 ?_
  refine al0 dX7_jump_23 ?_
  refine g_X7_12 dX7_jump_24 a0 ?_
  refine sP_X7_148 dX7_jump_27 (cr_X1_keep hI.2.2.1 hI.2.1 (by omega)) o17 ⟨lb rfl, lb rfl, lb rfl, lb rfl⟩ ?_
  rintro h2 ⟨x12, x22⟩
  have hI2 := hI.pa x12 x22
  obtain ⟨a02, hS2, hA2, hW2, hRd2, hG2, hM2, hH2⟩ := (id hI2 : CB h2 _ _ _ _ _ _ _ _ _ _ _ _)
  obtain ⟨sp2, pi2, pp2, nw2, bz2, hd2, dw2, k12, hP2, ⟨s12, s22, s32, s42, s52, s62⟩, k42⟩ := (id hS2 : SR h2 1 _ _)
  obtain ⟨⟨fs12, o12⟩, o172, ⟨fs62, o1152⟩, hu62, hm122⟩ := CB.o hI2
  have hbz2 := s52.b
  have him2 := hM2.b
  refine al0 dX7_jump_30 ?_
  refine g_X7_12 dX7_jump_31 a02 ?_
  refine il1 dX7_jump_34 ?_
  refine il2 dX7_jump_35 ?_
  refine il3 dX7_jump_36 ?_
  refine il4 dX7_jump_37 ?_
  refine sP_X7_151 dX7_jump_39 (cr_X5_addFirst hI2.2.1 hm0 hp0) o12 ⟨lb rfl, lb rfl, lb rfl, lb rfl⟩ ?_
  rintro h3 ⟨x3, x4⟩
  have hI3 := hI2.st x3 x4
  obtain ⟨a03, hS3, hA3, hW3, hRd3, hG3, hM3, hH3⟩ := (id hI3 : CB h3 _ _ _ _ _ _ _ _ _ _ _ _)
  obtain ⟨sp3, pi3, pp3, nw3, bz3, hd3, dw3, k13, hP3, ⟨s13, s23, s33, s43, s53, s63⟩, k43⟩ := (id hS3 : SR h3 1 _ _)
  obtain ⟨⟨fs13, o13⟩, o173, ⟨fs63, o1153⟩, hu63, hm123⟩ := CB.o hI3
  have hbz3 := s53.b
  have him3 := hM3.b
  refine al0 dX7_jump_42 ?_
  refine g_X7_12 dX7_jump_43 a03 ?_
  refine g_X7_68 dX7_jump_46 k13.1 ?_
  exact xt_iret dX7_jump_49 rfl (lb rfl) (lb rfl) ⟨rfl, ⟨hI3, FM_tr (FM_fr (by omega) x22) (FM_fr (by omega) x4)⟩, rfl⟩
theorem kd_bit : ∀ j, j < 32 → ∀ x, x < 5 → ((nI j &&& ((1 : Int32) <<< (nI x &&& 31)) = 0) ↔ (nI j >>> (nI x &&& 31)) &&& 1 = 0) := by decide +kernel
theorem kd_or : ∀ j, j < 32 → ∀ x, x < 5 → ∃ c, c < 32 ∧ nI j ||| ((1 : Int32) <<< (nI x &&& 31)) = nI c := by decide +kernel
theorem k5 {x : Int32} (h : 0 ≤ x ∧ x ≤ 4) : ∃ j : Nat, j < 5 ∧ x = nI j := by
  obtain ⟨j, h1, h2⟩ := nI_of (x := x) (by have := h.1; rw [fb_le, ti_0] at this; rw [fb_lt, ti_0]; omega)
  refine ⟨j, ?_, h2⟩
  have := h.2
  rw [h2, fb_le, ti_4, nI_toInt h1] at this
  omega
theorem kdS_nat {r : Nat → Int32} {m : Nat} : (∀ k, k < m → pcOK r (13 + 4 * k)) → ∃ j, j < 32 ∧ kdS r m = nI j := by
  induction m with
  | zero => intro _; exact ⟨0, by omega, rfl⟩
  | succ m ih =>
    intro h
    obtain ⟨j, hj, e⟩ := ih (fun k hk => h k (by omega))
    obtain ⟨x, hx, ex⟩ := k5 (h m (by omega)).1
    obtain ⟨c, hc, ec⟩ := kd_or j hj x hx
    exact ⟨c, hc, by show kdS r m ||| _ = _; rw [e, ex, ec]⟩
theorem kd_iff {r : Nat → Int32} {m : Nat} (h : RI r m) {x : Int32} (hx : 0 ≤ x ∧ x ≤ 4) : (kdS r m &&& ((1 : Int32) <<< (x &&& 31)) = 0) ↔ (kdS r m >>> (x &&& 31)) &&& 1 = 0 := by
  obtain ⟨j, hj, e⟩ := kdS_nat h.1.2.2
  obtain ⟨y, hy, ey⟩ := k5 hx
  rw [e, ey]; exact kd_bit j hj y hy
set_option maxHeartbeats 400000 in
set_option maxRecDepth 100000 in
theorem cr_X7_purge_b {h : ax_H} {n : Nat} {r : Nat → Int32} {m : Nat} {R : Nat → Nat → Int32} {u : Nat} {im iu : Int32} {Wi : Nat → Nat → Int32} {t : Nat} {tp mn la : Nat → Int32} {it : Nat → Int64} (hI : CB h r m R u im iu Wi t tp mn la it) (x : Int32) (hx : ¬ (0 ≤ x ∧ x ≤ 4)) : ax_C yX7_purge cX7_purge 2 (some .int) 3 0 0 [.ref 0, .int x] h n (kE ((-1000001)) (fun h2 => CB h2 r m R u im iu Wi t tp mn la it ∧ FM n h h2) n) := by
  refine ax_C.go RX7 "purge" [some (.ref 0), some (.int x)] rfl rfl pn_X7 (lb rfl) rfl (fun l G cy bs => ?_)
  obtain ⟨a0, hS, hA, hW, hRd, hG, hM, hH⟩ := (id hI : CB h _ _ _ _ _ _ _ _ _ _ _ _)
  obtain ⟨sp, pi, pp, nw, bz, hd, dw, k1, hP, ⟨s1, s2, s3, s4, s5, s6⟩, k4⟩ := (id hS : SR h 1 _ _)
  obtain ⟨⟨fs1, o1⟩, o17, ⟨fs6, o115⟩, hu6, hm12⟩ := CB.o hI
  have hbz := s5.b
  have him := hM.b
  refine il1 dX7_purge_0 ?_
  refine s_X7_154 dX7_purge_1 (cn_X7_isKind _) ⟨lb rfl, lb rfl, lb rfl, lb rfl⟩ ?_
  refine xt_if_ne 10 dX7_purge_4 rfl (fun q => absurd (fl0 (ax5 hx)) q) (fun _ => ?_)
  refine k_X7_64 dX7_purge_7 ?_
  exact xt_iret dX7_purge_9 rfl (lb rfl) (lb rfl) ⟨rfl, ⟨hI, FM_rf⟩, rfl⟩
set_option maxHeartbeats 400000 in
set_option maxRecDepth 100000 in
theorem cr_X7_purge_n {h : ax_H} {n : Nat} {r : Nat → Int32} {m : Nat} {R : Nat → Nat → Int32} {u : Nat} {im iu : Int32} {Wi : Nat → Nat → Int32} {t : Nat} {tp mn la : Nat → Int32} {it : Nat → Int64} (hI : CB h r m R u im iu Wi t tp mn la it) (x : Int32) (hx : 0 ≤ x ∧ x ≤ 4) (hk : (kdS r m >>> (x &&& 31)) &&& 1 = 0) : ax_C yX7_purge cX7_purge 2 (some .int) 3 0 0 [.ref 0, .int x] h n (kE ((-1000002)) (fun h2 => CB h2 r m R u im iu Wi t tp mn la it ∧ FM n h h2) n) := by
  refine ax_C.go RX7 "purge" [some (.ref 0), some (.int x)] rfl rfl pn_X7 (lb rfl) rfl (fun l G cy bs => ?_)
  obtain ⟨a0, hS, hA, hW, hRd, hG, hM, hH⟩ := (id hI : CB h _ _ _ _ _ _ _ _ _ _ _ _)
  obtain ⟨sp, pi, pp, nw, bz, hd, dw, k1, hP, ⟨s1, s2, s3, s4, s5, s6⟩, k4⟩ := (id hS : SR h 1 _ _)
  obtain ⟨⟨fs1, o1⟩, o17, ⟨fs6, o115⟩, hu6, hm12⟩ := CB.o hI
  have hbz := s5.b
  have him := hM.b
  refine il1 dX7_purge_0 ?_
  refine s_X7_154 dX7_purge_1 (cn_X7_isKind _) ⟨lb rfl, lb rfl, lb rfl, lb rfl⟩ ?_
  refine xt_if_ne 10 dX7_purge_4 rfl (fun _ => ?_) (fun q => absurd q (fl1 (ax5' hx)))
  refine al0 dX7_purge_10 ?_
  refine g_X7_12 dX7_purge_11 a0 ?_
  refine s_X7_141 dX7_purge_14 (cr_X5_kinds hS) k1.1 ⟨lb rfl, lb rfl, lb rfl, lb rfl⟩ ?_
  refine xt_iconst (1) dX7_purge_17 rfl ?_
  refine il1 dX7_purge_18 ?_
  refine xt_ishl dX7_purge_19 ?_
  refine xt_iand dX7_purge_20 ?_
  refine xt_if_ne 27 dX7_purge_21 rfl (fun q => absurd ((kd_iff k4 hx).mpr hk) q) (fun _ => ?_)
  refine k_X7_157 dX7_purge_24 ?_
  exact xt_iret dX7_purge_26 rfl (lb rfl) (lb rfl) ⟨rfl, ⟨hI, FM_rf⟩, rfl⟩
set_option maxHeartbeats 400000 in
set_option maxRecDepth 100000 in
theorem cr_X7_purge {h : ax_H} {n : Nat} {r : Nat → Int32} {m : Nat} {R : Nat → Nat → Int32} {u : Nat} {im iu : Int32} {Wi : Nat → Nat → Int32} {t : Nat} {tp mn la : Nat → Int32} {it : Nat → Int64} (hI : CB h r m R u im iu Wi t tp mn la it) (x : Int32) (hx : 0 ≤ x ∧ x ≤ 4) (hk : ¬ (kdS r m >>> (x &&& 31)) &&& 1 = 0) : ax_C yX7_purge cX7_purge 2 (some .int) 3 0 0 [.ref 0, .int x] h n (kE (nI (m - (pgS x r m).2)) (fun h2 => CB h2 (purgeR x r m) ((pgS x r m).2) (kpR R u r) (mdU u) im iu Wi t tp mn la it ∧ FM n h h2) n) := by
  refine ax_C.go RX7 "purge" [some (.ref 0), some (.int x)] rfl rfl pn_X7 (lb rfl) rfl (fun l G cy bs => ?_)
  obtain ⟨a0, hS, hA, hW, hRd, hG, hM, hH⟩ := (id hI : CB h _ _ _ _ _ _ _ _ _ _ _ _)
  obtain ⟨sp, pi, pp, nw, bz, hd, dw, k1, hP, ⟨s1, s2, s3, s4, s5, s6⟩, k4⟩ := (id hS : SR h 1 _ _)
  obtain ⟨⟨fs1, o1⟩, o17, ⟨fs6, o115⟩, hu6, hm12⟩ := CB.o hI
  have hbz := s5.b
  have him := hM.b
  refine il1 dX7_purge_0 ?_
  refine s_X7_154 dX7_purge_1 (cn_X7_isKind _) ⟨lb rfl, lb rfl, lb rfl, lb rfl⟩ ?_
  refine xt_if_ne 10 dX7_purge_4 rfl (fun _ => ?_) (fun q => absurd q (fl1 (ax5' hx)))
  refine al0 dX7_purge_10 ?_
  refine g_X7_12 dX7_purge_11 a0 ?_
  refine s_X7_141 dX7_purge_14 (cr_X5_kinds hS) k1.1 ⟨lb rfl, lb rfl, lb rfl, lb rfl⟩ ?_
  refine xt_iconst (1) dX7_purge_17 rfl ?_
  refine il1 dX7_purge_18 ?_
  refine xt_ishl dX7_purge_19 ?_
  refine xt_iand dX7_purge_20 ?_
  refine xt_if_ne 27 dX7_purge_21 rfl (fun _ => ?_) (fun q => absurd q (fun z => hk ((kd_iff k4 hx).mp z)))
  refine al0 dX7_purge_27 ?_
  refine g_X7_19 dX7_purge_28 a0 ?_
  refine al0 dX7_purge_31 ?_
  refine g_X7_12 dX7_purge_32 a0 ?_
  refine sP_X7_148 dX7_purge_35 (cr_X1_keep hI.2.2.1 hI.2.1 (by omega)) o17 ⟨lb rfl, lb rfl, lb rfl, lb rfl⟩ ?_
  rintro h2 ⟨x12, x22⟩
  have hI2 := hI.pa x12 x22
  obtain ⟨a02, hS2, hA2, hW2, hRd2, hG2, hM2, hH2⟩ := (id hI2 : CB h2 _ _ _ _ _ _ _ _ _ _ _ _)
  obtain ⟨sp2, pi2, pp2, nw2, bz2, hd2, dw2, k12, hP2, ⟨s12, s22, s32, s42, s52, s62⟩, k42⟩ := (id hS2 : SR h2 1 _ _)
  obtain ⟨⟨fs12, o12⟩, o172, ⟨fs62, o1152⟩, hu62, hm122⟩ := CB.o hI2
  have hbz2 := s52.b
  have him2 := hM2.b
  refine al0 dX7_purge_38 ?_
  refine g_X7_12 dX7_purge_39 a02 ?_
  refine il1 dX7_purge_42 ?_
  refine sP_X7_158 dX7_purge_43 (cr_X5_removeAll hI2.2.1 x) o12 ⟨lb rfl, lb rfl, lb rfl, lb rfl⟩ ?_
  rintro h3 ⟨x3, x4⟩
  have hI3 := hI2.st x3 x4
  exact xt_iret dX7_purge_46 rfl (lb rfl) (lb rfl) ⟨rfl, ⟨hI3, FM_tr (FM_fr (by omega) x22) (FM_fr (by omega) x4)⟩, rfl⟩
theorem SF_put {h : ax_H} {B : Nat} {sp : Nat → Int32} {pi : Nat → Nat} {pp : Nat → Nat → Int32} {w : Int32} {nw : Nat → Int32} {bz hd dw : Int32} (k : SF h B sp pi pp w nw bz hd dw) (w2 bz2 hd2 dw2 : Int32) : SF (hp h B (eSt B w2 bz2 hd2 dw2)) B sp pi pp w2 nw bz2 hd2 dw2 ∧ fr B 16 h (hp h B (eSt B w2 bz2 hd2 dw2)) := by
  obtain ⟨h0, h1, h2, h3, h4⟩ := k
  exact ⟨⟨hp_s _ _ _, hp_nt (by omega) h1, hp_nt (by omega) h2, hp_nt (by omega) h3, fun i hi => hp_nt (by omega) (h4 i hi)⟩, fun j hj => hp_n _ _ (by omega)⟩
theorem RI_stop {r : Nat → Int32} {m : Nat} (h : RI r m) : RI (upd r 5 (-1)) m := by
  obtain ⟨⟨h1, h2, h3⟩, h4⟩ := h
  refine ⟨⟨by rw [upd, if_neg (by omega)]; exact h1, h2, fun k hk => ?_⟩, Or.inl (by rw [upd, if_pos rfl])⟩
  show okP (upd r 5 (-1) (13 + 4 * k)) (upd r 5 (-1) (13 + 4 * k + 1)) (upd r 5 (-1) (13 + 4 * k + 2)) (upd r 5 (-1) (13 + 4 * k + 3))
  simp only [upd]
  rw [if_neg (by omega), if_neg (by omega), if_neg (by omega), if_neg (by omega)]
  exact h3 k hk
theorem tlR_upd {r : Nat → Int32} {c : Nat} {v : Int32} (hc : c < 13) (k : Nat) : tlR (upd r c v) k = tlR r k := by
  unfold tlR; simp only [upd]; rw [if_neg (by omega), if_neg (by omega), if_neg (by omega), if_neg (by omega)]
set_option maxHeartbeats 400000 in
set_option maxRecDepth 100000 in
theorem cr_X7_stop_n {h : ax_H} {n : Nat} {r : Nat → Int32} {m : Nat} {R : Nat → Nat → Int32} {u : Nat} {im iu : Int32} {Wi : Nat → Nat → Int32} {t : Nat} {tp mn la : Nat → Int32} {it : Nat → Int64} (hI : CB h r m R u im iu Wi t tp mn la it) (hn : ¬ 0 ≤ r 5) : ax_C yX7_stop cX7_stop 1 (some .int) 3 0 0 [.ref 0] h n (kE ((-1000002)) (fun h2 => CB h2 r m R u im iu Wi t tp mn la it ∧ FM n h h2) n) := by
  refine ax_C.go RX7 "stop" [some (.ref 0)] rfl rfl pn_X7 (lb rfl) rfl (fun l G cy bs => ?_)
  obtain ⟨a0, hS, hA, hW, hRd, hG, hM, hH⟩ := (id hI : CB h _ _ _ _ _ _ _ _ _ _ _ _)
  obtain ⟨sp, pi, pp, nw, bz, hd, dw, k1, hP, ⟨s1, s2, s3, s4, s5, s6⟩, k4⟩ := (id hS : SR h 1 _ _)
  obtain ⟨⟨fs1, o1⟩, o17, ⟨fs6, o115⟩, hu6, hm12⟩ := CB.o hI
  have hbz := s5.b
  have him := hM.b
  refine al0 dX7_stop_0 ?_
  refine g_X7_12 dX7_stop_1 a0 ?_
  refine g_X7_80 dX7_stop_4 k1.1 ?_
  refine xt_if_ne 13 dX7_stop_7 rfl (fun q => absurd (NB0 s5 hn) q) (fun _ => ?_)
  refine k_X7_157 dX7_stop_10 ?_
  exact xt_iret dX7_stop_12 rfl (lb rfl) (lb rfl) ⟨rfl, ⟨hI, FM_rf⟩, rfl⟩
set_option maxHeartbeats 400000 in
set_option maxRecDepth 100000 in
theorem cr_X7_stop {h : ax_H} {n : Nat} {r : Nat → Int32} {m : Nat} {R : Nat → Nat → Int32} {u : Nat} {im iu : Int32} {Wi : Nat → Nat → Int32} {t : Nat} {tp mn la : Nat → Int32} {it : Nat → Int64} (hI : CB h r m R u im iu Wi t tp mn la it) (hn : 0 ≤ r 5) : ax_C yX7_stop cX7_stop 1 (some .int) 3 0 0 [.ref 0] h n (kE (sNow r) (fun h2 => CB h2 (upd r 5 (-1)) m (kpR R u r) (mdU u) im iu Wi t tp mn la it ∧ FM n h h2) n) := by
  refine ax_C.go RX7 "stop" [some (.ref 0)] rfl rfl pn_X7 (lb rfl) rfl (fun l G cy bs => ?_)
  obtain ⟨a0, hS, hA, hW, hRd, hG, hM, hH⟩ := (id hI : CB h _ _ _ _ _ _ _ _ _ _ _ _)
  obtain ⟨sp, pi, pp, nw, bz, hd, dw, k1, hP, ⟨s1, s2, s3, s4, s5, s6⟩, k4⟩ := (id hS : SR h 1 _ _)
  obtain ⟨⟨fs1, o1⟩, o17, ⟨fs6, o115⟩, hu6, hm12⟩ := CB.o hI
  have hbz := s5.b
  have him := hM.b
  refine al0 dX7_stop_0 ?_
  refine g_X7_12 dX7_stop_1 a0 ?_
  refine g_X7_80 dX7_stop_4 k1.1 ?_
  refine xt_if_ne 13 dX7_stop_7 rfl (fun _ => ?_) (fun q => absurd q (NB1 s5 hn).1)
  refine al0 dX7_stop_13 ?_
  refine g_X7_19 dX7_stop_14 a0 ?_
  refine al0 dX7_stop_17 ?_
  refine g_X7_12 dX7_stop_18 a0 ?_
  refine sP_X7_148 dX7_stop_21 (cr_X1_keep hI.2.2.1 hI.2.1 (by omega)) o17 ⟨lb rfl, lb rfl, lb rfl, lb rfl⟩ ?_
  rintro h2 ⟨x12, x22⟩
  have hI2 := hI.pa x12 x22
  obtain ⟨a02, hS2, hA2, hW2, hRd2, hG2, hM2, hH2⟩ := (id hI2 : CB h2 _ _ _ _ _ _ _ _ _ _ _ _)
  obtain ⟨sp2, pi2, pp2, nw2, bz2, hd2, dw2, k12, hP2, ⟨s12, s22, s32, s42, s52, s62⟩, k42⟩ := (id hS2 : SR h2 1 _ _)
  obtain ⟨⟨fs12, o12⟩, o172, ⟨fs62, o1152⟩, hu62, hm122⟩ := CB.o hI2
  have hbz2 := s52.b
  have him2 := hM2.b
  refine al0 dX7_stop_24 ?_
  refine g_X7_12 dX7_stop_25 a02 ?_
  refine xt_iconst (0) dX7_stop_28 rfl ?_
  refine p_X7_80 dX7_stop_29 (Or.inl rfl) k12.1 ?_
  refine al0 dX7_stop_32 ?_
  refine g_X7_12 dX7_stop_33 (hp_nt (by omega) a02) ?_
  refine g_X7_83 dX7_stop_36 (hp_s _ _ _) ?_
  refine s_X7_162 dX7_stop_39 (cn_X2_remaining (hp_nt (by omega) k12.2.2.2.1)) (hp_nt (by omega) k12.2.2.2.1) ⟨lb rfl, lb rfl, lb rfl, lb rfl⟩ ?_
  exact xt_iret dX7_stop_42 rfl (lb rfl) (lb rfl) ⟨by rw [remQ_ok (NB1 s52 hn).2 (now_ok k42 hn)], ⟨hI2.st ⟨sp2, pi2, pp2, nw2, 0, hd2, dw2, (SF_put k12 _ _ _ _).1, hP2, ⟨fun j hj => by rw [upd, if_neg (by omega)]; exact s12 j hj, by rw [upd, if_neg (by omega)]; exact s22, by rw [upd, if_neg (by omega)]; exact s32, fun k hk j hj => by rw [tlR_upd (by omega)]; exact s42 k hk j hj, Or.inl ⟨rfl, by rw [upd, if_pos rfl]⟩, s62⟩, RI_stop k42⟩ (SF_put k12 _ _ _ _).2, FM_tr (FM_fr (by omega) x22) (FM_fr (by omega) (SF_put k12 _ _ _ _).2)⟩, rfl⟩
set_option maxHeartbeats 400000 in
set_option maxRecDepth 100000 in
theorem cr_X7_hold {h : ax_H} {n : Nat} {r : Nat → Int32} {m : Nat} {R : Nat → Nat → Int32} {u : Nat} {im iu : Int32} {Wi : Nat → Nat → Int32} {t : Nat} {tp mn la : Nat → Int32} {it : Nat → Int64} (hI : CB h r m R u im iu Wi t tp mn la it)  : ax_C yX7_hold cX7_hold 1 (some .int) 3 0 0 [.ref 0] h n (kE (1 - r 3) (fun h2 => CB h2 (upd r 3 (1 - r 3)) m (kpR R u r) (mdU u) im iu Wi t tp mn la it ∧ FM n h h2) n) := by
  refine ax_C.go RX7 "hold" [some (.ref 0)] rfl rfl pn_X7 (lb rfl) rfl (fun l G cy bs => ?_)
  obtain ⟨a0, hS, hA, hW, hRd, hG, hM, hH⟩ := (id hI : CB h _ _ _ _ _ _ _ _ _ _ _ _)
  obtain ⟨sp, pi, pp, nw, bz, hd, dw, k1, hP, ⟨s1, s2, s3, s4, s5, s6⟩, k4⟩ := (id hS : SR h 1 _ _)
  obtain ⟨⟨fs1, o1⟩, o17, ⟨fs6, o115⟩, hu6, hm12⟩ := CB.o hI
  have hbz := s5.b
  have him := hM.b
  refine al0 dX7_hold_0 ?_
  refine g_X7_19 dX7_hold_1 a0 ?_
  refine al0 dX7_hold_4 ?_
  refine g_X7_12 dX7_hold_5 a0 ?_
  refine sP_X7_148 dX7_hold_8 (cr_X1_keep hI.2.2.1 hI.2.1 (by omega)) o17 ⟨lb rfl, lb rfl, lb rfl, lb rfl⟩ ?_
  rintro h2 ⟨x12, x22⟩
  have hI2 := hI.pa x12 x22
  obtain ⟨a02, hS2, hA2, hW2, hRd2, hG2, hM2, hH2⟩ := (id hI2 : CB h2 _ _ _ _ _ _ _ _ _ _ _ _)
  obtain ⟨sp2, pi2, pp2, nw2, bz2, hd2, dw2, k12, hP2, ⟨s12, s22, s32, s42, s52, s62⟩, k42⟩ := (id hS2 : SR h2 1 _ _)
  obtain ⟨⟨fs12, o12⟩, o172, ⟨fs62, o1152⟩, hu62, hm122⟩ := CB.o hI2
  have hbz2 := s52.b
  have him2 := hM2.b
  refine al0 dX7_hold_11 ?_
  refine g_X7_12 dX7_hold_12 a02 ?_
  refine al0 dX7_hold_15 ?_
  refine g_X7_12 dX7_hold_16 a02 ?_
  refine g_X7_134 dX7_hold_19 k12.1 ?_
  apply xj_if_ne 29 dX7_hold_22 rfl
  · intro k22
    refine ⟨fun c22 => ?_, fun c22 => ?_⟩
    · refine xt_iconst (0) dX7_hold_29 rfl ?_
      exact xt_in1 k22 c22
    · refine xt_iconst (1) dX7_hold_25 rfl ?_
      refine xt_goto 30 dX7_hold_26 rfl ?_
      exact xt_in2 k22 c22
  · skip
    refine xt_nm (fun hv e_hv => ?_)
    refine p_X7_134 dX7_hold_30 (bo01 e_hv) k12.1 ?_
    refine al0 dX7_hold_33 ?_
    refine g_X7_12 dX7_hold_34 (hp_nt (by omega) a02) ?_
    refine g_X7_134 dX7_hold_37 (hp_s _ _ _) ?_
    apply xj_if_eq 47 dX7_hold_40 rfl
    · intro k40
      refine ⟨fun c40 => ?_, fun c40 => ?_⟩
      · refine xt_iconst (0) dX7_hold_47 rfl ?_
        exact xt_it1 k40 c40
      · refine xt_iconst (1) dX7_hold_43 rfl ?_
        refine xt_goto 48 dX7_hold_44 rfl ?_
        exact xt_it2 k40 c40
    · skip
      exact xt_iret dX7_hold_48 rfl (lb rfl) (lb rfl) ⟨by rw [hd01 (bo01 e_hv), e_hv, hd10 s62, s22], ⟨hI2.st ⟨sp2, pi2, pp2, nw2, bz2, hv, dw2, (SF_put k12 _ _ _ _).1, hP2, ⟨fun j hj => by rw [upd, if_neg (by omega)]; exact s12 j hj, by rw [upd, if_pos rfl, e_hv, hd10 s62, s22], by rw [upd, if_neg (by omega)]; exact s32, fun k hk j hj => by rw [tlR_upd (by omega)]; exact s42 k hk j hj, NB_congr (fun _ _ => rfl) (fun j a b => by rw [upd, if_neg (by omega)]) s52, bo01 e_hv⟩, RI_col (by omega) k42⟩ (SF_put k12 _ _ _ _).2, FM_tr (FM_fr (by omega) x22) (FM_fr (by omega) (SF_put k12 _ _ _ _).2)⟩, rfl⟩
set_option maxHeartbeats 400000 in
set_option maxRecDepth 100000 in
theorem cr_X7_seed_b {h : ax_H} {n : Nat} {r : Nat → Int32} {m : Nat} {R : Nat → Nat → Int32} {u : Nat} {im iu : Int32} {Wi : Nat → Nat → Int32} {t : Nat} {tp mn la : Nat → Int32} {it : Nat → Int64} (hI : CB h r m R u im iu Wi t tp mn la it) (x : Int32) (hx : ¬ 0 ≤ x) : ax_C yX7_seed cX7_seed 3 (some .int) 0 0 0 [.ref 0, .int x] h n (kE ((-1000001)) (fun h2 => CB h2 r m R u im iu Wi t tp mn la it ∧ FM n h h2) n) := by
  refine ax_C.go RX7 "seed" [some (.ref 0), some (.int x), none] rfl rfl pn_X7 (lb rfl) rfl (fun l G cy bs => ?_)
  obtain ⟨a0, hS, hA, hW, hRd, hG, hM, hH⟩ := (id hI : CB h _ _ _ _ _ _ _ _ _ _ _ _)
  obtain ⟨sp, pi, pp, nw, bz, hd, dw, k1, hP, ⟨s1, s2, s3, s4, s5, s6⟩, k4⟩ := (id hS : SR h 1 _ _)
  obtain ⟨⟨fs1, o1⟩, o17, ⟨fs6, o115⟩, hu6, hm12⟩ := CB.o hI
  have hbz := s5.b
  have him := hM.b
  refine il1 dX7_seed_0 ?_
  refine xt_if_ge 7 dX7_seed_1 rfl (fun q => absurd q hx) (fun _ => ?_)
  refine k_X7_64 dX7_seed_4 ?_
  exact xt_iret dX7_seed_6 rfl (lb rfl) (lb rfl) ⟨rfl, ⟨hI, FM_rf⟩, rfl⟩
set_option maxHeartbeats 400000 in
set_option maxRecDepth 100000 in
theorem cr_X7_seed {h : ax_H} {n : Nat} {r : Nat → Int32} {m : Nat} {R : Nat → Nat → Int32} {u : Nat} {im iu : Int32} {Wi : Nat → Nat → Int32} {t : Nat} {tp mn la : Nat → Int32} {it : Nat → Int64} (hI : CB h r m R u im iu Wi t tp mn la it) (x : Int32) (hx : 0 ≤ x) : ax_C yX7_seed cX7_seed 3 (some .int) 0 0 0 [.ref 0, .int x] h n (kE (r 4) (fun h2 => CB h2 (upd r 4 x) m R u im iu Wi t tp mn la it ∧ FM n h h2) n) := by
  refine ax_C.go RX7 "seed" [some (.ref 0), some (.int x), none] rfl rfl pn_X7 (lb rfl) rfl (fun l G cy bs => ?_)
  obtain ⟨a0, hS, hA, hW, hRd, hG, hM, hH⟩ := (id hI : CB h _ _ _ _ _ _ _ _ _ _ _ _)
  obtain ⟨sp, pi, pp, nw, bz, hd, dw, k1, hP, ⟨s1, s2, s3, s4, s5, s6⟩, k4⟩ := (id hS : SR h 1 _ _)
  obtain ⟨⟨fs1, o1⟩, o17, ⟨fs6, o115⟩, hu6, hm12⟩ := CB.o hI
  have hbz := s5.b
  have him := hM.b
  refine il1 dX7_seed_0 ?_
  refine xt_if_ge 7 dX7_seed_1 rfl (fun _ => ?_) (fun q => absurd hx q)
  refine al0 dX7_seed_7 ?_
  refine g_X7_12 dX7_seed_8 a0 ?_
  refine g_X7_172 dX7_seed_11 k1.1 ?_
  refine is2 dX7_seed_14 (by decide) rfl ?_
  refine al0 dX7_seed_15 ?_
  refine g_X7_12 dX7_seed_16 a0 ?_
  refine il1 dX7_seed_19 ?_
  refine p_X7_172 dX7_seed_20 k1.1 ?_
  refine il2 dX7_seed_23 ?_
  exact xt_iret dX7_seed_24 rfl (lb rfl) (lb rfl) ⟨by rw [s3], ⟨hI.st ⟨sp, pi, pp, nw, bz, hd, x, (SF_put k1 _ _ _ _).1, hP, ⟨fun j hj => by rw [upd, if_neg (by omega)]; exact s1 j hj, by rw [upd, if_neg (by omega)]; exact s2, by rw [upd, if_pos rfl], fun k hk j hj => by rw [tlR_upd (by omega)]; exact s4 k hk j hj, NB_congr (fun _ _ => rfl) (fun j a b => by rw [upd, if_neg (by omega)]) s5, s6⟩, RI_col (by omega) k4⟩ (SF_put k1 _ _ _ _).2, FM_fr (by omega) (SF_put k1 _ _ _ _).2⟩, rfl⟩
set_option maxHeartbeats 400000 in
set_option maxRecDepth 100000 in
theorem cr_X7_undo_n {h : ax_H} {n : Nat} {r : Nat → Int32} {m : Nat} {R : Nat → Nat → Int32} {im iu : Int32} {Wi : Nat → Nat → Int32} {t : Nat} {tp mn la : Nat → Int32} {it : Nat → Int64} (hI : CB h r m R (0) im iu Wi t tp mn la it)  : ax_C yX7_undo cX7_undo 1 (some .int) 3 0 0 [.ref 0] h n (kE ((-1000004)) (fun h2 => CB h2 r m R (0) im iu Wi t tp mn la it ∧ FM n h h2) n) := by
  refine ax_C.go RX7 "undo" [some (.ref 0)] rfl rfl pn_X7 (lb rfl) rfl (fun l G cy bs => ?_)
  obtain ⟨a0, hS, hA, hW, hRd, hG, hM, hH⟩ := (id hI : CB h _ _ _ _ _ _ _ _ _ _ _ _)
  obtain ⟨sp, pi, pp, nw, bz, hd, dw, k1, hP, ⟨s1, s2, s3, s4, s5, s6⟩, k4⟩ := (id hS : SR h 1 _ _)
  obtain ⟨⟨fs1, o1⟩, o17, ⟨fs6, o115⟩, hu6, hm12⟩ := CB.o hI
  have hbz := s5.b
  have him := hM.b
  refine al0 dX7_undo_0 ?_
  refine g_X7_19 dX7_undo_1 a0 ?_
  refine g_X7_131 dX7_undo_4 o17 ?_
  refine xt_if_gt 13 dX7_undo_7 rfl (fun q => absurd q (by decide)) (fun _ => ?_)
  refine k_X7_87 dX7_undo_10 ?_
  exact xt_iret dX7_undo_12 rfl (lb rfl) (lb rfl) ⟨rfl, ⟨hI, FM_rf⟩, rfl⟩
theorem CB.tb {h h2 : ax_H} {r : Nat → Int32} {m : Nat} {R : Nat → Nat → Int32} {u : Nat} {im iu : Int32} {Wi : Nat → Nat → Int32} {t : Nat} {tp mn la : Nat → Int32} {it : Nat → Int64} {r2 : Nat → Int32} {m2 u2 : Nat} {R2 : Nat → Nat → Int32} (hI : CB h r m R u im iu Wi t tp mn la it) (x1 : PA h2 17 R2 u2) (x2 : SR h2 1 r2 m2) (he : ∀ j, (j < 17 ∨ 17 + 98 ≤ j) → (j < 1 ∨ 1 + 16 ≤ j) → h2 j = h j) : CB h2 (r2) (m2) (R2) (u2) im iu Wi t tp mn la it := by
  obtain ⟨a1, a2, a3, a4, a5, ⟨g, a6⟩, a7, a8⟩ := hI
  exact ⟨by rw [he _ (by omega) (by omega)]; exact a1, x2, x1, a4.fr (fun j _ b => he j (by omega) (by omega)), a5.fr (fun j _ b => he j (by omega) (by omega)), ⟨g, by rw [he _ (by omega) (by omega)]; exact a6⟩, a7.fr (fun j _ b => he j (by omega) (by omega)), a8.fr (fun j b => he j (by omega) (by omega))⟩
set_option maxHeartbeats 400000 in
set_option maxRecDepth 100000 in
theorem cr_X7_undo {h : ax_H} {n : Nat} {r : Nat → Int32} {m : Nat} {R : Nat → Nat → Int32} {u : Nat} {im iu : Int32} {Wi : Nat → Nat → Int32} {t : Nat} {tp mn la : Nat → Int32} {it : Nat → Int64} (hI : CB h r m R (u + 1) im iu Wi t tp mn la it)  : ax_C yX7_undo cX7_undo 1 (some .int) 3 0 0 [.ref 0] h n (kE (nI u) (fun h2 => ∃ m2, CB h2 (R u) (m2) R u im iu Wi t tp mn la it ∧ FM n h h2) n) := by
  refine ax_C.go RX7 "undo" [some (.ref 0)] rfl rfl pn_X7 (lb rfl) rfl (fun l G cy bs => ?_)
  obtain ⟨a0, hS, hA, hW, hRd, hG, hM, hH⟩ := (id hI : CB h _ _ _ _ _ _ _ _ _ _ _ _)
  obtain ⟨sp, pi, pp, nw, bz, hd, dw, k1, hP, ⟨s1, s2, s3, s4, s5, s6⟩, k4⟩ := (id hS : SR h 1 _ _)
  obtain ⟨⟨fs1, o1⟩, o17, ⟨fs6, o115⟩, hu6, hm12⟩ := CB.o hI
  have hbz := s5.b
  have him := hM.b
  refine al0 dX7_undo_0 ?_
  refine g_X7_19 dX7_undo_1 a0 ?_
  refine g_X7_131 dX7_undo_4 o17 ?_
  refine xt_if_gt 13 dX7_undo_7 rfl (fun _ => ?_) (fun q => absurd (by rw [fb_lt, ti_0, nI_toInt (by omega)]; omega) q)
  refine al0 dX7_undo_13 ?_
  refine g_X7_19 dX7_undo_14 a0 ?_
  refine al0 dX7_undo_17 ?_
  refine g_X7_12 dX7_undo_18 a0 ?_
  refine sP_X7_169 dX7_undo_21 (cr_X1_takeBack hI.2.2.1 hI.2.1.sx (by omega)) o17 ⟨lb rfl, lb rfl, lb rfl, lb rfl⟩ ?_
  rintro h2 ⟨x1, ⟨m2, x2⟩, x3⟩
  have hI2 : CB h2 (R u) (m2) R u im iu Wi t tp mn la it := CB.tb hI x1 x2 x3
  obtain ⟨a02, hS2, hA2, hW2, hRd2, hG2, hM2, hH2⟩ := (id hI2 : CB h2 _ _ _ _ _ _ _ _ _ _ _ _)
  obtain ⟨sp2, pi2, pp2, nw2, bz2, hd2, dw2, k12, hP2, ⟨s12, s22, s32, s42, s52, s62⟩, k42⟩ := (id hS2 : SR h2 1 _ _)
  obtain ⟨⟨fs12, o12⟩, o172, ⟨fs62, o1152⟩, hu62, hm122⟩ := CB.o hI2
  have hbz2 := s52.b
  have him2 := hM2.b
  refine al0 dX7_undo_24 ?_
  refine g_X7_19 dX7_undo_25 a02 ?_
  refine g_X7_131 dX7_undo_28 o172 ?_
  exact xt_iret dX7_undo_31 rfl (lb rfl) (lb rfl) ⟨rfl, ⟨m2, hI2, fun j a b => x3 j (by omega) (by omega)⟩, rfl⟩
