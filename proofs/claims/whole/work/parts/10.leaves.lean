/-! pure words -/
abbrev mx (x y : Int32) : Int32 := if x < y then y else x
abbrev mn (x y : Int32) : Int32 := if y < x then y else x
abbrev ab (x : Int32) : Int32 := if 0 ≤ x then x else 0 - x
abbrev sg (x : Int32) : Int32 := if 0 < x then 1 else if x < 0 then -1 else 0
abbrev b1 (p : Prop) [Decidable p] : Int32 := if p then 1 else 0
set_option maxHeartbeats 4000000 in
set_option maxRecDepth 100000 in
theorem cn_X7_isAxis {h : ax_H} {n : Nat} (x : Int32)  : ax_C yX7_isAxis cX7_isAxis 1 (some .boolean) 0 0 0 [.int x] h n (ki (if 0 ≤ x ∧ x < 3 then 1 else 0) h n) := by
  refine ax_C.go RX7 "isAxis" [some (.int x)] rfl rfl pn_X7 (lb rfl) rfl (fun l G cy bs => ?_)
  refine il0 dX7_isAxis_0 ?_
  refine xt_if_lt 13 dX7_isAxis_1 rfl (fun c1 => ?_) (fun c1 => ?_)
  · refine xt_iconst (0) dX7_isAxis_13 rfl ?_
    exact xt_zret dX7_isAxis_14 rfl (Or.inl rfl) (lb rfl) (lb rfl) ⟨by (try simp only [← Int32.not_lt] at *); simp_all [-Int32.not_lt, -Int32.not_le], rfl, rfl⟩
  · refine il0 dX7_isAxis_4 ?_
    refine xt_iconst (3) dX7_isAxis_5 rfl ?_
    refine xt_icmp_ge 13 dX7_isAxis_6 rfl (fun c6 => ?_) (fun c6 => ?_)
    · refine xt_iconst (0) dX7_isAxis_13 rfl ?_
      exact xt_zret dX7_isAxis_14 rfl (Or.inl rfl) (lb rfl) (lb rfl) ⟨by (try simp only [← Int32.not_lt] at *); simp_all [-Int32.not_lt, -Int32.not_le], rfl, rfl⟩
    · refine xt_iconst (1) dX7_isAxis_9 rfl ?_
      refine xt_goto 14 dX7_isAxis_10 rfl ?_
      exact xt_zret dX7_isAxis_14 rfl (Or.inr rfl) (lb rfl) (lb rfl) ⟨by (try simp only [← Int32.not_lt] at *); simp_all [-Int32.not_lt, -Int32.not_le], rfl, rfl⟩
set_option maxHeartbeats 4000000 in
set_option maxRecDepth 100000 in
theorem cn_X7_isKind {h : ax_H} {n : Nat} (x : Int32)  : ax_C yX7_isKind cX7_isKind 1 (some .boolean) 0 0 0 [.int x] h n (ki (if 0 ≤ x ∧ x < 5 then 1 else 0) h n) := by
  refine ax_C.go RX7 "isKind" [some (.int x)] rfl rfl pn_X7 (lb rfl) rfl (fun l G cy bs => ?_)
  refine il0 dX7_isKind_0 ?_
  refine xt_if_lt 13 dX7_isKind_1 rfl (fun c1 => ?_) (fun c1 => ?_)
  · refine xt_iconst (0) dX7_isKind_13 rfl ?_
    exact xt_zret dX7_isKind_14 rfl (Or.inl rfl) (lb rfl) (lb rfl) ⟨by (try simp only [← Int32.not_lt] at *); simp_all [-Int32.not_lt, -Int32.not_le], rfl, rfl⟩
  · refine il0 dX7_isKind_4 ?_
    refine xt_iconst (5) dX7_isKind_5 rfl ?_
    refine xt_icmp_ge 13 dX7_isKind_6 rfl (fun c6 => ?_) (fun c6 => ?_)
    · refine xt_iconst (0) dX7_isKind_13 rfl ?_
      exact xt_zret dX7_isKind_14 rfl (Or.inl rfl) (lb rfl) (lb rfl) ⟨by (try simp only [← Int32.not_lt] at *); simp_all [-Int32.not_lt, -Int32.not_le], rfl, rfl⟩
    · refine xt_iconst (1) dX7_isKind_9 rfl ?_
      refine xt_goto 14 dX7_isKind_10 rfl ?_
      exact xt_zret dX7_isKind_14 rfl (Or.inr rfl) (lb rfl) (lb rfl) ⟨by (try simp only [← Int32.not_lt] at *); simp_all [-Int32.not_lt, -Int32.not_le], rfl, rfl⟩
set_option maxHeartbeats 4000000 in
set_option maxRecDepth 100000 in
theorem cn_X7_isSheet {h : ax_H} {n : Nat} (x : Int32)  : ax_C yX7_isSheet cX7_isSheet 1 (some .boolean) 0 0 0 [.int x] h n (ki (if 0 ≤ x ∧ x < 4 then 1 else 0) h n) := by
  refine ax_C.go RX7 "isSheet" [some (.int x)] rfl rfl pn_X7 (lb rfl) rfl (fun l G cy bs => ?_)
  refine il0 dX7_isSheet_0 ?_
  refine xt_if_lt 13 dX7_isSheet_1 rfl (fun c1 => ?_) (fun c1 => ?_)
  · refine xt_iconst (0) dX7_isSheet_13 rfl ?_
    exact xt_zret dX7_isSheet_14 rfl (Or.inl rfl) (lb rfl) (lb rfl) ⟨by (try simp only [← Int32.not_lt] at *); simp_all [-Int32.not_lt, -Int32.not_le], rfl, rfl⟩
  · refine il0 dX7_isSheet_4 ?_
    refine xt_iconst (4) dX7_isSheet_5 rfl ?_
    refine xt_icmp_ge 13 dX7_isSheet_6 rfl (fun c6 => ?_) (fun c6 => ?_)
    · refine xt_iconst (0) dX7_isSheet_13 rfl ?_
      exact xt_zret dX7_isSheet_14 rfl (Or.inl rfl) (lb rfl) (lb rfl) ⟨by (try simp only [← Int32.not_lt] at *); simp_all [-Int32.not_lt, -Int32.not_le], rfl, rfl⟩
    · refine xt_iconst (1) dX7_isSheet_9 rfl ?_
      refine xt_goto 14 dX7_isSheet_10 rfl ?_
      exact xt_zret dX7_isSheet_14 rfl (Or.inr rfl) (lb rfl) (lb rfl) ⟨by (try simp only [← Int32.not_lt] at *); simp_all [-Int32.not_lt, -Int32.not_le], rfl, rfl⟩
set_option maxHeartbeats 4000000 in
set_option maxRecDepth 100000 in
theorem cn_X7_isLane {h : ax_H} {n : Nat} (x : Int32)  : ax_C yX7_isLane cX7_isLane 1 (some .boolean) 0 0 0 [.int x] h n (ki (if 0 ≤ x ∧ x < 4 then 1 else 0) h n) := by
  refine ax_C.go RX7 "isLane" [some (.int x)] rfl rfl pn_X7 (lb rfl) rfl (fun l G cy bs => ?_)
  refine il0 dX7_isLane_0 ?_
  refine xt_if_lt 13 dX7_isLane_1 rfl (fun c1 => ?_) (fun c1 => ?_)
  · refine xt_iconst (0) dX7_isLane_13 rfl ?_
    exact xt_zret dX7_isLane_14 rfl (Or.inl rfl) (lb rfl) (lb rfl) ⟨by (try simp only [← Int32.not_lt] at *); simp_all [-Int32.not_lt, -Int32.not_le], rfl, rfl⟩
  · refine il0 dX7_isLane_4 ?_
    refine xt_iconst (4) dX7_isLane_5 rfl ?_
    refine xt_icmp_ge 13 dX7_isLane_6 rfl (fun c6 => ?_) (fun c6 => ?_)
    · refine xt_iconst (0) dX7_isLane_13 rfl ?_
      exact xt_zret dX7_isLane_14 rfl (Or.inl rfl) (lb rfl) (lb rfl) ⟨by (try simp only [← Int32.not_lt] at *); simp_all [-Int32.not_lt, -Int32.not_le], rfl, rfl⟩
    · refine xt_iconst (1) dX7_isLane_9 rfl ?_
      refine xt_goto 14 dX7_isLane_10 rfl ?_
      exact xt_zret dX7_isLane_14 rfl (Or.inr rfl) (lb rfl) (lb rfl) ⟨by (try simp only [← Int32.not_lt] at *); simp_all [-Int32.not_lt, -Int32.not_le], rfl, rfl⟩
set_option maxHeartbeats 4000000 in
set_option maxRecDepth 100000 in
theorem cn_X7_isSide {h : ax_H} {n : Nat} (x : Int32)  : ax_C yX7_isSide cX7_isSide 1 (some .boolean) 0 0 0 [.int x] h n (ki (if x = 0 ∨ x = 1 then 1 else 0) h n) := by
  refine ax_C.go RX7 "isSide" [some (.int x)] rfl rfl pn_X7 (lb rfl) rfl (fun l G cy bs => ?_)
  refine il0 dX7_isSide_0 ?_
  refine xt_if_eq 9 dX7_isSide_1 rfl (fun c1 => ?_) (fun c1 => ?_)
  · refine xt_iconst (1) dX7_isSide_9 rfl ?_
    refine xt_goto 14 dX7_isSide_10 rfl ?_
    exact xt_zret dX7_isSide_14 rfl (Or.inr rfl) (lb rfl) (lb rfl) ⟨by (try simp only [← Int32.not_lt] at *); simp_all [-Int32.not_lt, -Int32.not_le], rfl, rfl⟩
  · refine il0 dX7_isSide_4 ?_
    refine xt_iconst (1) dX7_isSide_5 rfl ?_
    refine xt_icmp_ne 13 dX7_isSide_6 rfl (fun c6 => ?_) (fun c6 => ?_)
    · refine xt_iconst (0) dX7_isSide_13 rfl ?_
      exact xt_zret dX7_isSide_14 rfl (Or.inl rfl) (lb rfl) (lb rfl) ⟨by (try simp only [← Int32.not_lt] at *); simp_all [-Int32.not_lt, -Int32.not_le], rfl, rfl⟩
    · refine xt_iconst (1) dX7_isSide_9 rfl ?_
      refine xt_goto 14 dX7_isSide_10 rfl ?_
      exact xt_zret dX7_isSide_14 rfl (Or.inr rfl) (lb rfl) (lb rfl) ⟨by (try simp only [← Int32.not_lt] at *); simp_all [-Int32.not_lt, -Int32.not_le], rfl, rfl⟩
set_option maxHeartbeats 4000000 in
set_option maxRecDepth 100000 in
theorem cn_X7_isWithin {h : ax_H} {n : Nat} (x m : Int32)  : ax_C yX7_isWithin cX7_isWithin 2 (some .boolean) 0 0 0 [.int x, .int m] h n (ki (if -m ≤ x ∧ x ≤ m then 1 else 0) h n) := by
  refine ax_C.go RX7 "isWithin" [some (.int x), some (.int m)] rfl rfl pn_X7 (lb rfl) rfl (fun l G cy bs => ?_)
  refine il0 dX7_isWithin_0 ?_
  refine il1 dX7_isWithin_1 ?_
  refine xt_ineg dX7_isWithin_2 ?_
  refine xt_icmp_lt 15 dX7_isWithin_3 rfl (fun c3 => ?_) (fun c3 => ?_)
  · refine xt_iconst (0) dX7_isWithin_15 rfl ?_
    exact xt_zret dX7_isWithin_16 rfl (Or.inl rfl) (lb rfl) (lb rfl) ⟨by (try simp only [← Int32.not_lt] at *); simp_all [-Int32.not_lt, -Int32.not_le], rfl, rfl⟩
  · refine il0 dX7_isWithin_6 ?_
    refine il1 dX7_isWithin_7 ?_
    refine xt_icmp_gt 15 dX7_isWithin_8 rfl (fun c8 => ?_) (fun c8 => ?_)
    · refine xt_iconst (0) dX7_isWithin_15 rfl ?_
      exact xt_zret dX7_isWithin_16 rfl (Or.inl rfl) (lb rfl) (lb rfl) ⟨by (try simp only [← Int32.not_lt] at *); simp_all [-Int32.not_lt, -Int32.not_le], rfl, rfl⟩
    · refine xt_iconst (1) dX7_isWithin_11 rfl ?_
      refine xt_goto 16 dX7_isWithin_12 rfl ?_
      exact xt_zret dX7_isWithin_16 rfl (Or.inr rfl) (lb rfl) (lb rfl) ⟨by (try simp only [← Int32.not_lt] at *); simp_all [-Int32.not_lt, -Int32.not_le], rfl, rfl⟩
set_option maxHeartbeats 4000000 in
set_option maxRecDepth 100000 in
theorem cn_X7_sign {h : ax_H} {n : Nat} (x : Int32)  : ax_C yX7_sign cX7_sign 1 (some .int) 0 0 0 [.int x] h n (ki (if x = 0 then 0 else if 0 < x then 1 else -1) h n) := by
  refine ax_C.go RX7 "sign" [some (.int x)] rfl rfl pn_X7 (lb rfl) rfl (fun l G cy bs => ?_)
  refine il0 dX7_sign_0 ?_
  refine xt_if_ne 6 dX7_sign_1 rfl (fun c1 => ?_) (fun c1 => ?_)
  · refine il0 dX7_sign_6 ?_
    refine xt_if_le 14 dX7_sign_7 rfl (fun c7 => ?_) (fun c7 => ?_)
    · refine xt_iconst (-1) dX7_sign_14 rfl ?_
      exact xt_iret dX7_sign_15 rfl (lb rfl) (lb rfl) ⟨by (try simp only [← Int32.not_lt] at *); simp_all [-Int32.not_lt, -Int32.not_le], rfl, rfl⟩
    · refine xt_iconst (1) dX7_sign_10 rfl ?_
      refine xt_goto 15 dX7_sign_11 rfl ?_
      exact xt_iret dX7_sign_15 rfl (lb rfl) (lb rfl) ⟨by (try simp only [← Int32.not_lt] at *); simp_all [-Int32.not_lt, -Int32.not_le], rfl, rfl⟩
  · refine xt_iconst (0) dX7_sign_4 rfl ?_
    exact xt_iret dX7_sign_5 rfl (lb rfl) (lb rfl) ⟨by (try simp only [← Int32.not_lt] at *); simp_all [-Int32.not_lt, -Int32.not_le], rfl, rfl⟩
set_option maxHeartbeats 4000000 in
set_option maxRecDepth 100000 in
theorem cn_X8_size {h : ax_H} {n : Nat} (x : Int32)  : ax_C yX8_size cX8_size 1 (some .int) 0 0 0 [.int x] h n (ki (if x < 0 then -x else x) h n) := by
  refine ax_C.go RX8 "size" [some (.int x)] rfl rfl pn_X8 (lb rfl) rfl (fun l G cy bs => ?_)
  refine il0 dX8_size_0 ?_
  refine xt_if_ge 9 dX8_size_1 rfl (fun c1 => ?_) (fun c1 => ?_)
  · refine il0 dX8_size_9 ?_
    exact xt_iret dX8_size_10 rfl (lb rfl) (lb rfl) ⟨by (try simp only [← Int32.not_lt] at *); simp_all [-Int32.not_lt, -Int32.not_le], rfl, rfl⟩
  · refine il0 dX8_size_4 ?_
    refine xt_ineg dX8_size_5 ?_
    refine xt_goto 10 dX8_size_6 rfl ?_
    exact xt_iret dX8_size_10 rfl (lb rfl) (lb rfl) ⟨by (try simp only [← Int32.not_lt] at *); simp_all [-Int32.not_lt, -Int32.not_le], rfl, rfl⟩
set_option maxHeartbeats 4000000 in
set_option maxRecDepth 100000 in
theorem cn_X8_sign {h : ax_H} {n : Nat} (x : Int32)  : ax_C yX8_sign cX8_sign 1 (some .int) 0 0 0 [.int x] h n (ki (if 0 < x then 1 else if x < 0 then -1 else 0) h n) := by
  refine ax_C.go RX8 "sign" [some (.int x)] rfl rfl pn_X8 (lb rfl) rfl (fun l G cy bs => ?_)
  refine il0 dX8_sign_0 ?_
  refine xt_if_le 8 dX8_sign_1 rfl (fun c1 => ?_) (fun c1 => ?_)
  · refine il0 dX8_sign_8 ?_
    refine xt_if_ge 16 dX8_sign_9 rfl (fun c9 => ?_) (fun c9 => ?_)
    · refine xt_iconst (0) dX8_sign_16 rfl ?_
      exact xt_iret dX8_sign_17 rfl (lb rfl) (lb rfl) ⟨by (try simp only [← Int32.not_lt] at *); simp_all [-Int32.not_lt, -Int32.not_le], rfl, rfl⟩
    · refine xt_iconst (-1) dX8_sign_12 rfl ?_
      refine xt_goto 17 dX8_sign_13 rfl ?_
      exact xt_iret dX8_sign_17 rfl (lb rfl) (lb rfl) ⟨by (try simp only [← Int32.not_lt] at *); simp_all [-Int32.not_lt, -Int32.not_le], rfl, rfl⟩
  · refine xt_iconst (1) dX8_sign_4 rfl ?_
    refine xt_goto 17 dX8_sign_5 rfl ?_
    exact xt_iret dX8_sign_17 rfl (lb rfl) (lb rfl) ⟨by (try simp only [← Int32.not_lt] at *); simp_all [-Int32.not_lt, -Int32.not_le], rfl, rfl⟩
