/-- whether the numbers are those of a piece -/
abbrev okP (k a b c : Int32) : Prop := (0 ≤ k ∧ k ≤ 4) ∧ (if 2 < k then (-10 ≤ a ∧ a ≤ 10) ∧ (-10 ≤ b ∧ b ≤ 10) ∧ ¬ (a = 0 ∧ b = 0) ∧ (1 ≤ c ∧ c ≤ 99) else (-15 ≤ a ∧ a ≤ 15) ∧ (-15 ≤ b ∧ b ≤ 15) ∧ (-15 ≤ c ∧ c ≤ 15) ∧ ¬ (a = 0 ∧ b = 0 ∧ c = 0))
abbrev rSz (x : Int32) : Int32 := if x < 0 then -x else x
abbrev rSg (x : Int32) : Int32 := if 0 < x then 1 else if x < 0 then -1 else 0
def rTurns (a b c : Int32) : Int32 := if rSz c ≤ (if rSz a ≤ rSz b then rSz b else rSz a) then (if rSz a ≤ rSz b then rSz b else rSz a) else rSz c
def rSteps (k a b c : Int32) : Int32 := if 2 ≤ k then (if k = 2 then rSz a + rSz b + rSz c else c) else rTurns a b c
def rFar (k w t j : Int32) : Int32 := if k = 1 then (if rSz w ≤ j then rSz w else j) else (2 * j * rSz w + t - 1) / (2 * t)
def rGone (k w t j : Int32) : Int32 := if 0 ≤ w then rFar k w t j else -rFar k w t j
set_option maxHeartbeats 4000000 in
set_option maxRecDepth 100000 in
theorem cn_X8_in {h : ax_H} {n : Nat} (v lo hi : Int64)  : ax_C yX8_in cX8_in 6 (some .boolean) 0 0 0 [.long v, .long lo, .long hi] h n (ki (if lo ≤ v ∧ v ≤ hi then 1 else 0) h n) := by
  refine ax_C.go RX8 "in" [some (.long v), none, some (.long lo), none, some (.long hi), none] rfl rfl pn_X8 (lb rfl) rfl (fun l G cy bs => ?_)
  refine ll0 dX8_in_0 ?_
  refine ll2 dX8_in_1 ?_
  refine xt_lcmp dX8_in_2 ?_
  refine xt_if_lt 17 dX8_in_3 rfl (fun c3 => ?_) (fun c3 => ?_)
  · refine xt_iconst (0) dX8_in_17 rfl ?_
    exact xt_zret dX8_in_18 rfl (Or.inl rfl) (lb rfl) (lb rfl) ⟨by simp only [lc_lt, lc_gt] at *; (try simp only [← Int64.not_lt] at *); simp_all [-Int64.not_lt, -Int64.not_le], rfl, rfl⟩
  · refine ll0 dX8_in_6 ?_
    refine ll4 dX8_in_7 ?_
    refine xt_lcmp dX8_in_9 ?_
    refine xt_if_gt 17 dX8_in_10 rfl (fun c10 => ?_) (fun c10 => ?_)
    · refine xt_iconst (0) dX8_in_17 rfl ?_
      exact xt_zret dX8_in_18 rfl (Or.inl rfl) (lb rfl) (lb rfl) ⟨by simp only [lc_lt, lc_gt] at *; (try simp only [← Int64.not_lt] at *); simp_all [-Int64.not_lt, -Int64.not_le], rfl, rfl⟩
    · refine xt_iconst (1) dX8_in_13 rfl ?_
      refine xt_goto 18 dX8_in_14 rfl ?_
      exact xt_zret dX8_in_18 rfl (Or.inr rfl) (lb rfl) (lb rfl) ⟨by simp only [lc_lt, lc_gt] at *; (try simp only [← Int64.not_lt] at *); simp_all [-Int64.not_lt, -Int64.not_le], rfl, rfl⟩
theorem cn_X8_inI {h : ax_H} {n : Nat} (x : Int32) (lo hi : Int32) {lo2 hi2 : Int64} (e1 : lo.toInt64 = lo2) (e2 : hi.toInt64 = hi2) : ax_C yX8_in cX8_in 6 (some .boolean) 0 0 0 [.long x.toInt64, .long lo2, .long hi2] h n (ki (if lo ≤ x ∧ x ≤ hi then 1 else 0) h n) := by
  have := cn_X8_in (h := h) (n := n) x.toInt64 lo.toInt64 hi.toInt64
  simp only [fw_le] at this
  rw [e1, e2] at this
  exact this
set_option maxHeartbeats 4000000 in
set_option maxRecDepth 100000 in
theorem cn_X8_isAxis {h : ax_H} {n : Nat} (x : Int32)  : ax_C yX8_isAxis cX8_isAxis 1 (some .boolean) 1 0 0 [.int x] h n (ki (if 0 ≤ x ∧ x ≤ 2 then 1 else 0) h n) := by
  refine ax_C.go RX8 "isAxis" [some (.int x)] rfl rfl pn_X8 (lb rfl) rfl (fun l G cy bs => ?_)
  refine il0 dX8_isAxis_0 ?_
  refine xt_i2l dX8_isAxis_1 ?_
  refine xt_lconst (0) dX8_isAxis_2 rfl ?_
  refine k_X8_106 dX8_isAxis_3 ?_
  refine s_X8_51 dX8_isAxis_6 (cn_X8_inI _ (0) (2) rfl rfl) ⟨lb rfl, lb rfl, lb rfl, lb rfl⟩ ?_
  exact xt_zret dX8_isAxis_9 rfl (by split <;> simp) (lb rfl) (lb rfl) ⟨rfl, rfl, rfl⟩
set_option maxHeartbeats 4000000 in
set_option maxRecDepth 100000 in
theorem cn_X8_isSheet {h : ax_H} {n : Nat} (x : Int32)  : ax_C yX8_isSheet cX8_isSheet 1 (some .boolean) 1 0 0 [.int x] h n (ki (if 0 ≤ x ∧ x ≤ 3 then 1 else 0) h n) := by
  refine ax_C.go RX8 "isSheet" [some (.int x)] rfl rfl pn_X8 (lb rfl) rfl (fun l G cy bs => ?_)
  refine il0 dX8_isSheet_0 ?_
  refine xt_i2l dX8_isSheet_1 ?_
  refine xt_lconst (0) dX8_isSheet_2 rfl ?_
  refine k_X8_198 dX8_isSheet_3 ?_
  refine s_X8_51 dX8_isSheet_6 (cn_X8_inI _ (0) (3) rfl rfl) ⟨lb rfl, lb rfl, lb rfl, lb rfl⟩ ?_
  exact xt_zret dX8_isSheet_9 rfl (by split <;> simp) (lb rfl) (lb rfl) ⟨rfl, rfl, rfl⟩
set_option maxHeartbeats 4000000 in
set_option maxRecDepth 100000 in
theorem cn_X8_isLane {h : ax_H} {n : Nat} (x : Int32)  : ax_C yX8_isLane cX8_isLane 1 (some .boolean) 1 0 0 [.int x] h n (ki (if 0 ≤ x ∧ x ≤ 3 then 1 else 0) h n) := by
  refine ax_C.go RX8 "isLane" [some (.int x)] rfl rfl pn_X8 (lb rfl) rfl (fun l G cy bs => ?_)
  refine il0 dX8_isLane_0 ?_
  refine xt_i2l dX8_isLane_1 ?_
  refine xt_lconst (0) dX8_isLane_2 rfl ?_
  refine k_X8_198 dX8_isLane_3 ?_
  refine s_X8_51 dX8_isLane_6 (cn_X8_inI _ (0) (3) rfl rfl) ⟨lb rfl, lb rfl, lb rfl, lb rfl⟩ ?_
  exact xt_zret dX8_isLane_9 rfl (by split <;> simp) (lb rfl) (lb rfl) ⟨rfl, rfl, rfl⟩
set_option maxHeartbeats 4000000 in
set_option maxRecDepth 100000 in
theorem cn_X8_isDigit {h : ax_H} {n : Nat} (x : Int32)  : ax_C yX8_isDigit cX8_isDigit 1 (some .boolean) 1 0 0 [.int x] h n (ki (if 48 ≤ x ∧ x ≤ 57 then 1 else 0) h n) := by
  refine ax_C.go RX8 "isDigit" [some (.int x)] rfl rfl pn_X8 (lb rfl) rfl (fun l G cy bs => ?_)
  refine il0 dX8_isDigit_0 ?_
  refine xt_i2l dX8_isDigit_1 ?_
  refine k_X8_134 dX8_isDigit_2 ?_
  refine k_X8_136 dX8_isDigit_5 ?_
  refine s_X8_51 dX8_isDigit_8 (cn_X8_inI _ (48) (57) rfl rfl) ⟨lb rfl, lb rfl, lb rfl, lb rfl⟩ ?_
  exact xt_zret dX8_isDigit_11 rfl (by split <;> simp) (lb rfl) (lb rfl) ⟨rfl, rfl, rfl⟩
set_option maxHeartbeats 4000000 in
set_option maxRecDepth 100000 in
theorem cn_X8_isPiece {h : ax_H} {n : Nat} (k a b c : Int32)  : ax_C yX8_isPiece cX8_isPiece 4 (some .boolean) 1 0 0 [.int k, .int a, .int b, .int c] h n (ki (if okP k a b c then 1 else 0) h n) := by
  refine ax_C.go RX8 "isPiece" [some (.int k), some (.int a), some (.int b), some (.int c)] rfl rfl pn_X8 (lb rfl) rfl (fun l G cy bs => ?_)
  refine il0 dX8_isPiece_0 ?_
  refine xt_i2l dX8_isPiece_1 ?_
  refine xt_lconst (0) dX8_isPiece_2 rfl ?_
  refine k_X8_49 dX8_isPiece_3 ?_
  refine s_X8_51 dX8_isPiece_6 (cn_X8_inI _ (0) (4) rfl rfl) ⟨lb rfl, lb rfl, lb rfl, lb rfl⟩ ?_
  refine xt_if_ne 14 dX8_isPiece_9 rfl (fun c9 => ?_) (fun c9 => ?_)
  · refine il0 dX8_isPiece_14 ?_
    refine xt_iconst (2) dX8_isPiece_15 rfl ?_
    refine xt_icmp_le 73 dX8_isPiece_16 rfl (fun c16 => ?_) (fun c16 => ?_)
    · refine il1 dX8_isPiece_73 ?_
      refine xt_i2l dX8_isPiece_74 ?_
      refine k_X8_61 dX8_isPiece_75 ?_
      refine k_X8_63 dX8_isPiece_78 ?_
      refine s_X8_51 dX8_isPiece_81 (cn_X8_inI _ (-15) (15) rfl rfl) ⟨lb rfl, lb rfl, lb rfl, lb rfl⟩ ?_
      refine xt_if_eq 131 dX8_isPiece_84 rfl (fun c84 => ?_) (fun c84 => ?_)
      · refine xt_iconst (0) dX8_isPiece_131 rfl ?_
        exact xt_zret dX8_isPiece_132 rfl (Or.inl rfl) (lb rfl) (lb rfl) ⟨by (try simp only [okP, ← Int32.not_lt] at *); simp_all [-Int32.not_lt, -Int32.not_le], rfl, rfl⟩
      · refine il2 dX8_isPiece_87 ?_
        refine xt_i2l dX8_isPiece_88 ?_
        refine k_X8_61 dX8_isPiece_89 ?_
        refine k_X8_63 dX8_isPiece_92 ?_
        refine s_X8_51 dX8_isPiece_95 (cn_X8_inI _ (-15) (15) rfl rfl) ⟨lb rfl, lb rfl, lb rfl, lb rfl⟩ ?_
        refine xt_if_eq 131 dX8_isPiece_98 rfl (fun c98 => ?_) (fun c98 => ?_)
        · refine xt_iconst (0) dX8_isPiece_131 rfl ?_
          exact xt_zret dX8_isPiece_132 rfl (Or.inl rfl) (lb rfl) (lb rfl) ⟨by (try simp only [okP, ← Int32.not_lt] at *); simp_all [-Int32.not_lt, -Int32.not_le], rfl, rfl⟩
        · refine il3 dX8_isPiece_101 ?_
          refine xt_i2l dX8_isPiece_102 ?_
          refine k_X8_61 dX8_isPiece_103 ?_
          refine k_X8_63 dX8_isPiece_106 ?_
          refine s_X8_51 dX8_isPiece_109 (cn_X8_inI _ (-15) (15) rfl rfl) ⟨lb rfl, lb rfl, lb rfl, lb rfl⟩ ?_
          refine xt_if_eq 131 dX8_isPiece_112 rfl (fun c112 => ?_) (fun c112 => ?_)
          · refine xt_iconst (0) dX8_isPiece_131 rfl ?_
            exact xt_zret dX8_isPiece_132 rfl (Or.inl rfl) (lb rfl) (lb rfl) ⟨by (try simp only [okP, ← Int32.not_lt] at *); simp_all [-Int32.not_lt, -Int32.not_le], rfl, rfl⟩
          · refine il1 dX8_isPiece_115 ?_
            refine xt_if_ne 127 dX8_isPiece_116 rfl (fun c116 => ?_) (fun c116 => ?_)
            · refine xt_iconst (1) dX8_isPiece_127 rfl ?_
              refine xt_goto 132 dX8_isPiece_128 rfl ?_
              exact xt_zret dX8_isPiece_132 rfl (Or.inr rfl) (lb rfl) (lb rfl) ⟨by (try simp only [okP, ← Int32.not_lt] at *); simp_all [-Int32.not_lt, -Int32.not_le], rfl, rfl⟩
            · refine il2 dX8_isPiece_119 ?_
              refine xt_if_ne 127 dX8_isPiece_120 rfl (fun c120 => ?_) (fun c120 => ?_)
              · refine xt_iconst (1) dX8_isPiece_127 rfl ?_
                refine xt_goto 132 dX8_isPiece_128 rfl ?_
                exact xt_zret dX8_isPiece_132 rfl (Or.inr rfl) (lb rfl) (lb rfl) ⟨by (try simp only [okP, ← Int32.not_lt] at *); simp_all [-Int32.not_lt, -Int32.not_le], rfl, rfl⟩
              · refine il3 dX8_isPiece_123 ?_
                refine xt_if_eq 131 dX8_isPiece_124 rfl (fun c124 => ?_) (fun c124 => ?_)
                · refine xt_iconst (0) dX8_isPiece_131 rfl ?_
                  exact xt_zret dX8_isPiece_132 rfl (Or.inl rfl) (lb rfl) (lb rfl) ⟨by (try simp only [okP, ← Int32.not_lt] at *); simp_all [-Int32.not_lt, -Int32.not_le], rfl, rfl⟩
                · refine xt_iconst (1) dX8_isPiece_127 rfl ?_
                  refine xt_goto 132 dX8_isPiece_128 rfl ?_
                  exact xt_zret dX8_isPiece_132 rfl (Or.inr rfl) (lb rfl) (lb rfl) ⟨by (try simp only [okP, ← Int32.not_lt] at *); simp_all [-Int32.not_lt, -Int32.not_le], rfl, rfl⟩
    · refine il1 dX8_isPiece_19 ?_
      refine xt_i2l dX8_isPiece_20 ?_
      refine k_X8_55 dX8_isPiece_21 ?_
      refine k_X8_57 dX8_isPiece_24 ?_
      refine s_X8_51 dX8_isPiece_27 (cn_X8_inI _ (-10) (10) rfl rfl) ⟨lb rfl, lb rfl, lb rfl, lb rfl⟩ ?_
      refine xt_if_eq 71 dX8_isPiece_30 rfl (fun c30 => ?_) (fun c30 => ?_)
      · refine xt_iconst (0) dX8_isPiece_71 rfl ?_
        exact xt_zret dX8_isPiece_72 rfl (Or.inl rfl) (lb rfl) (lb rfl) ⟨by (try simp only [okP, ← Int32.not_lt] at *); simp_all [-Int32.not_lt, -Int32.not_le], rfl, rfl⟩
      · refine il2 dX8_isPiece_33 ?_
        refine xt_i2l dX8_isPiece_34 ?_
        refine k_X8_55 dX8_isPiece_35 ?_
        refine k_X8_57 dX8_isPiece_38 ?_
        refine s_X8_51 dX8_isPiece_41 (cn_X8_inI _ (-10) (10) rfl rfl) ⟨lb rfl, lb rfl, lb rfl, lb rfl⟩ ?_
        refine xt_if_eq 71 dX8_isPiece_44 rfl (fun c44 => ?_) (fun c44 => ?_)
        · refine xt_iconst (0) dX8_isPiece_71 rfl ?_
          exact xt_zret dX8_isPiece_72 rfl (Or.inl rfl) (lb rfl) (lb rfl) ⟨by (try simp only [okP, ← Int32.not_lt] at *); simp_all [-Int32.not_lt, -Int32.not_le], rfl, rfl⟩
        · refine il1 dX8_isPiece_47 ?_
          refine xt_if_ne 55 dX8_isPiece_48 rfl (fun c48 => ?_) (fun c48 => ?_)
          · refine il3 dX8_isPiece_55 ?_
            refine xt_i2l dX8_isPiece_56 ?_
            refine xt_lconst (1) dX8_isPiece_57 rfl ?_
            refine k_X8_59 dX8_isPiece_58 ?_
            refine s_X8_51 dX8_isPiece_61 (cn_X8_inI _ (1) (99) rfl rfl) ⟨lb rfl, lb rfl, lb rfl, lb rfl⟩ ?_
            refine xt_if_eq 71 dX8_isPiece_64 rfl (fun c64 => ?_) (fun c64 => ?_)
            · refine xt_iconst (0) dX8_isPiece_71 rfl ?_
              exact xt_zret dX8_isPiece_72 rfl (Or.inl rfl) (lb rfl) (lb rfl) ⟨by (try simp only [okP, ← Int32.not_lt] at *); simp_all [-Int32.not_lt, -Int32.not_le], rfl, rfl⟩
            · refine xt_iconst (1) dX8_isPiece_67 rfl ?_
              refine xt_goto 72 dX8_isPiece_68 rfl ?_
              exact xt_zret dX8_isPiece_72 rfl (Or.inr rfl) (lb rfl) (lb rfl) ⟨by (try simp only [okP, ← Int32.not_lt] at *); simp_all [-Int32.not_lt, -Int32.not_le], rfl, rfl⟩
          · refine il2 dX8_isPiece_51 ?_
            refine xt_if_eq 71 dX8_isPiece_52 rfl (fun c52 => ?_) (fun c52 => ?_)
            · refine xt_iconst (0) dX8_isPiece_71 rfl ?_
              exact xt_zret dX8_isPiece_72 rfl (Or.inl rfl) (lb rfl) (lb rfl) ⟨by (try simp only [okP, ← Int32.not_lt] at *); simp_all [-Int32.not_lt, -Int32.not_le], rfl, rfl⟩
            · refine il3 dX8_isPiece_55 ?_
              refine xt_i2l dX8_isPiece_56 ?_
              refine xt_lconst (1) dX8_isPiece_57 rfl ?_
              refine k_X8_59 dX8_isPiece_58 ?_
              refine s_X8_51 dX8_isPiece_61 (cn_X8_inI _ (1) (99) rfl rfl) ⟨lb rfl, lb rfl, lb rfl, lb rfl⟩ ?_
              refine xt_if_eq 71 dX8_isPiece_64 rfl (fun c64 => ?_) (fun c64 => ?_)
              · refine xt_iconst (0) dX8_isPiece_71 rfl ?_
                exact xt_zret dX8_isPiece_72 rfl (Or.inl rfl) (lb rfl) (lb rfl) ⟨by (try simp only [okP, ← Int32.not_lt] at *); simp_all [-Int32.not_lt, -Int32.not_le], rfl, rfl⟩
              · refine xt_iconst (1) dX8_isPiece_67 rfl ?_
                refine xt_goto 72 dX8_isPiece_68 rfl ?_
                exact xt_zret dX8_isPiece_72 rfl (Or.inr rfl) (lb rfl) (lb rfl) ⟨by (try simp only [okP, ← Int32.not_lt] at *); simp_all [-Int32.not_lt, -Int32.not_le], rfl, rfl⟩
  · refine xt_iconst (0) dX8_isPiece_12 rfl ?_
    exact xt_zret dX8_isPiece_13 rfl (Or.inl rfl) (lb rfl) (lb rfl) ⟨by (try simp only [okP, ← Int32.not_lt] at *); simp_all [-Int32.not_lt, -Int32.not_le], rfl, rfl⟩
set_option maxHeartbeats 4000000 in
set_option maxRecDepth 100000 in
theorem cn_X8_turnsOf {h : ax_H} {n : Nat} (a b c : Int32)  : ax_C yX8_turnsOf cX8_turnsOf 4 (some .int) 1 0 0 [.int a, .int b, .int c] h n (ki (rTurns a b c) h n) := by
  refine ax_C.go RX8 "turnsOf" [some (.int a), some (.int b), some (.int c), none] rfl rfl pn_X8 (lb rfl) rfl (fun l G cy bs => ?_)
  refine il0 dX8_turnsOf_0 ?_
  refine s_X8_65 dX8_turnsOf_1 (cn_X8_size _) ⟨lb rfl, lb rfl, lb rfl, lb rfl⟩ ?_
  refine il1 dX8_turnsOf_4 ?_
  refine s_X8_65 dX8_turnsOf_5 (cn_X8_size _) ⟨lb rfl, lb rfl, lb rfl, lb rfl⟩ ?_
  apply xj_icmp_le 18 dX8_turnsOf_8 rfl
  · intro k8
    refine ⟨fun c8 => ?_, fun c8 => ?_⟩
    · refine il1 dX8_turnsOf_18 ?_
      refine s_X8_65 dX8_turnsOf_19 (cn_X8_size _) ⟨lb rfl, lb rfl, lb rfl, lb rfl⟩ ?_
      exact xt_it1 k8 c8
    · refine il0 dX8_turnsOf_11 ?_
      refine s_X8_65 dX8_turnsOf_12 (cn_X8_size _) ⟨lb rfl, lb rfl, lb rfl, lb rfl⟩ ?_
      refine xt_goto 22 dX8_turnsOf_15 rfl ?_
      exact xt_it2 k8 c8
  · skip
    refine is3 dX8_turnsOf_22 (by decide) rfl ?_
    refine il2 dX8_turnsOf_23 ?_
    refine s_X8_65 dX8_turnsOf_24 (cn_X8_size _) ⟨lb rfl, lb rfl, lb rfl, lb rfl⟩ ?_
    refine il3 dX8_turnsOf_27 ?_
    apply xj_icmp_le 38 dX8_turnsOf_28 rfl
    · intro k28
      refine ⟨fun c28 => ?_, fun c28 => ?_⟩
      · refine il3 dX8_turnsOf_38 ?_
        exact xt_it1 k28 c28
      · refine il2 dX8_turnsOf_31 ?_
        refine s_X8_65 dX8_turnsOf_32 (cn_X8_size _) ⟨lb rfl, lb rfl, lb rfl, lb rfl⟩ ?_
        refine xt_goto 39 dX8_turnsOf_35 rfl ?_
        exact xt_it2 k28 c28
    · skip
      exact xt_iret dX8_turnsOf_39 rfl (lb rfl) (lb rfl) ⟨rfl, rfl, rfl⟩
set_option maxHeartbeats 4000000 in
set_option maxRecDepth 100000 in
theorem cn_X8_stepsOf {h : ax_H} {n : Nat} (k a b c : Int32)  : ax_C yX8_stepsOf cX8_stepsOf 4 (some .int) 2 0 0 [.int k, .int a, .int b, .int c] h n (ki (rSteps k a b c) h n) := by
  refine ax_C.go RX8 "stepsOf" [some (.int k), some (.int a), some (.int b), some (.int c)] rfl rfl pn_X8 (lb rfl) rfl (fun l G cy bs => ?_)
  refine il0 dX8_stepsOf_0 ?_
  refine xt_iconst (2) dX8_stepsOf_1 rfl ?_
  apply xj_icmp_ge 14 dX8_stepsOf_2 rfl
  · intro k2
    refine ⟨fun c2 => ?_, fun c2 => ?_⟩
    · refine il0 dX8_stepsOf_14 ?_
      refine xt_iconst (2) dX8_stepsOf_15 rfl ?_
      apply xj_icmp_ne 36 dX8_stepsOf_16 rfl
      · intro k16
        refine ⟨fun c16 => ?_, fun c16 => ?_⟩
        · refine il3 dX8_stepsOf_36 ?_
          exact xt_in1 k16 c16
        · refine il1 dX8_stepsOf_19 ?_
          refine s_X8_65 dX8_stepsOf_20 (cn_X8_size _) ⟨lb rfl, lb rfl, lb rfl, lb rfl⟩ ?_
          refine il2 dX8_stepsOf_23 ?_
          refine s_X8_65 dX8_stepsOf_24 (cn_X8_size _) ⟨lb rfl, lb rfl, lb rfl, lb rfl⟩ ?_
          refine xt_iadd dX8_stepsOf_27 ?_
          refine il3 dX8_stepsOf_28 ?_
          refine s_X8_65 dX8_stepsOf_29 (cn_X8_size _) ⟨lb rfl, lb rfl, lb rfl, lb rfl⟩ ?_
          refine xt_iadd dX8_stepsOf_32 ?_
          refine xt_goto 37 dX8_stepsOf_33 rfl ?_
          exact xt_in2 k16 c16
      · skip
        exact xt_it1 k2 c2
    · refine il1 dX8_stepsOf_5 ?_
      refine il2 dX8_stepsOf_6 ?_
      refine il3 dX8_stepsOf_7 ?_
      refine s_X8_69 dX8_stepsOf_8 (cn_X8_turnsOf _ _ _) ⟨lb rfl, lb rfl, lb rfl, lb rfl⟩ ?_
      refine xt_goto 37 dX8_stepsOf_11 rfl ?_
      exact xt_it2 k2 c2
  · skip
    exact xt_iret dX8_stepsOf_37 rfl (lb rfl) (lb rfl) ⟨rfl, rfl, rfl⟩
set_option maxHeartbeats 4000000 in
set_option maxRecDepth 100000 in
theorem cn_X8_gone {h : ax_H} {n : Nat} (k w t j : Int32) (ht : ¬ 2 * t = 0) : ax_C yX8_gone cX8_gone 5 (some .int) 1 0 0 [.int k, .int w, .int t, .int j] h n (ki (rGone k w t j) h n) := by
  refine ax_C.go RX8 "gone" [some (.int k), some (.int w), some (.int t), some (.int j), none] rfl rfl pn_X8 (lb rfl) rfl (fun l G cy bs => ?_)
  refine il0 dX8_gone_0 ?_
  refine xt_iconst (1) dX8_gone_1 rfl ?_
  apply xj_icmp_ne 24 dX8_gone_2 rfl
  · intro k2
    refine ⟨fun c2 => ?_, fun c2 => ?_⟩
    · refine xt_iconst (2) dX8_gone_24 rfl ?_
      refine il3 dX8_gone_25 ?_
      refine xt_imul dX8_gone_26 ?_
      refine il1 dX8_gone_27 ?_
      refine s_X8_65 dX8_gone_28 (cn_X8_size _) ⟨lb rfl, lb rfl, lb rfl, lb rfl⟩ ?_
      refine xt_imul dX8_gone_31 ?_
      refine il2 dX8_gone_32 ?_
      refine xt_iadd dX8_gone_33 ?_
      refine xt_iconst (1) dX8_gone_34 rfl ?_
      refine xt_isub dX8_gone_35 ?_
      refine xt_iconst (2) dX8_gone_36 rfl ?_
      refine il2 dX8_gone_37 ?_
      refine xt_imul dX8_gone_38 ?_
      refine xt_idiv dX8_gone_39 ht ?_
      exact xt_in1 k2 c2
    · refine il3 dX8_gone_5 ?_
      refine il1 dX8_gone_6 ?_
      refine s_X8_65 dX8_gone_7 (cn_X8_size _) ⟨lb rfl, lb rfl, lb rfl, lb rfl⟩ ?_
      apply xj_icmp_ge 17 dX8_gone_10 rfl
      · intro k10
        refine ⟨fun c10 => ?_, fun c10 => ?_⟩
        · refine il1 dX8_gone_17 ?_
          refine s_X8_65 dX8_gone_18 (cn_X8_size _) ⟨lb rfl, lb rfl, lb rfl, lb rfl⟩ ?_
          refine xt_goto 40 dX8_gone_21 rfl ?_
          exact xt_it1 k10 c10
        · refine il3 dX8_gone_13 ?_
          refine xt_goto 40 dX8_gone_14 rfl ?_
          exact xt_it2 k10 c10
      · skip
        exact xt_in2 k2 c2
  · skip
    refine is4 dX8_gone_40 (by decide) rfl ?_
    refine il1 dX8_gone_42 ?_
    apply xj_if_ge 52 dX8_gone_43 rfl
    · intro k43
      refine ⟨fun c43 => ?_, fun c43 => ?_⟩
      · refine il4 dX8_gone_52 ?_
        exact xt_it1 k43 c43
      · refine il4 dX8_gone_46 ?_
        refine xt_ineg dX8_gone_48 ?_
        refine xt_goto 54 dX8_gone_49 rfl ?_
        exact xt_it2 k43 c43
    · skip
      exact xt_iret dX8_gone_54 rfl (lb rfl) (lb rfl) ⟨rfl, rfl, rfl⟩
set_option maxHeartbeats 4000000 in
set_option maxRecDepth 100000 in
theorem cn_X8_kindOf {h : ax_H} {n : Nat} (c : Int32)  : ax_C yX8_kindOf cX8_kindOf 1 (some .int) 0 0 0 [.int c] h n (ki (if c = 108 then 0 else if c = 102 then 1 else if c = 101 then 2 else if c = 99 then 3 else if c = 114 then 4 else -1) h n) := by
  refine ax_C.go RX8 "kindOf" [some (.int c)] rfl rfl pn_X8 (lb rfl) rfl (fun l G cy bs => ?_)
  refine il0 dX8_kindOf_0 ?_
  refine xt_bipush (108) dX8_kindOf_1 rfl ?_
  refine xt_icmp_ne 10 dX8_kindOf_3 rfl (fun c3 => ?_) (fun c3 => ?_)
  · refine il0 dX8_kindOf_10 ?_
    refine xt_bipush (102) dX8_kindOf_11 rfl ?_
    refine xt_icmp_ne 20 dX8_kindOf_13 rfl (fun c13 => ?_) (fun c13 => ?_)
    · refine il0 dX8_kindOf_20 ?_
      refine xt_bipush (101) dX8_kindOf_21 rfl ?_
      refine xt_icmp_ne 30 dX8_kindOf_23 rfl (fun c23 => ?_) (fun c23 => ?_)
      · refine il0 dX8_kindOf_30 ?_
        refine xt_bipush (99) dX8_kindOf_31 rfl ?_
        refine xt_icmp_ne 40 dX8_kindOf_33 rfl (fun c33 => ?_) (fun c33 => ?_)
        · refine il0 dX8_kindOf_40 ?_
          refine xt_bipush (114) dX8_kindOf_41 rfl ?_
          refine xt_icmp_ne 50 dX8_kindOf_43 rfl (fun c43 => ?_) (fun c43 => ?_)
          · refine xt_iconst (-1) dX8_kindOf_50 rfl ?_
            exact xt_iret dX8_kindOf_51 rfl (lb rfl) (lb rfl) ⟨by simp_all, rfl, rfl⟩
          · refine xt_iconst (4) dX8_kindOf_46 rfl ?_
            refine xt_goto 51 dX8_kindOf_47 rfl ?_
            exact xt_iret dX8_kindOf_51 rfl (lb rfl) (lb rfl) ⟨by simp_all, rfl, rfl⟩
        · refine xt_iconst (3) dX8_kindOf_36 rfl ?_
          refine xt_goto 51 dX8_kindOf_37 rfl ?_
          exact xt_iret dX8_kindOf_51 rfl (lb rfl) (lb rfl) ⟨by simp_all, rfl, rfl⟩
      · refine xt_iconst (2) dX8_kindOf_26 rfl ?_
        refine xt_goto 51 dX8_kindOf_27 rfl ?_
        exact xt_iret dX8_kindOf_51 rfl (lb rfl) (lb rfl) ⟨by simp_all, rfl, rfl⟩
    · refine xt_iconst (1) dX8_kindOf_16 rfl ?_
      refine xt_goto 51 dX8_kindOf_17 rfl ?_
      exact xt_iret dX8_kindOf_51 rfl (lb rfl) (lb rfl) ⟨by simp_all, rfl, rfl⟩
  · refine xt_iconst (0) dX8_kindOf_6 rfl ?_
    refine xt_goto 51 dX8_kindOf_7 rfl ?_
    exact xt_iret dX8_kindOf_51 rfl (lb rfl) (lb rfl) ⟨by simp_all, rfl, rfl⟩
