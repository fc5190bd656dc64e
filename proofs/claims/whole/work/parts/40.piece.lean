/-! a piece of the class: its nine numbers, and the turns that they give -/
def turnsQ (q : Nat → Int32) : Int32 := mx (ab (q 1)) (mx (ab (q 2)) (ab (q 3)))
abbrev ePc (q : Nat → Int32) : ax_E := .inr (2, [.int (q 0), .int (q 1), .int (q 2), .int (q 3), .int (q 4), .int (turnsQ q), .int (q 5), .int (q 6), .int (q 7), .int (q 8)])
def tl (k a b c : Int32) : Nat → Int32 := fun j => match j with
  | 0 => k
  | 1 => a
  | 2 => b
  | 3 => c
  | 4 => 0
  | 5 => 1
  | 6 => 0
  | 7 => -a
  | 8 => -b
  | _ => 0
def isA (q : Nat → Int32) : Int32 := if q 0 = 3 then 1 else (if q 0 = 4 then 1 else 0)
def wayQ (q : Nat → Int32) (al : Int32) : Int32 := if al = 0 then q 1 else if al = 1 then q 2 else q 3
def totQ (q : Nat → Int32) : Int32 := if isA q = 0 then (if q 0 = 2 then ab (q 1) + ab (q 2) + ab (q 3) else turnsQ q) else q 3
def remQ (q : Nat → Int32) : Int32 := totQ q - q 4
def nearQ (a b : Int32) : Int32 := if 0 < b then (2 * a + b - 1) / (2 * b) else 0
def farQ (q : Nat → Int32) (k al : Int32) : Int32 := if q 0 = 1 then mn k (ab (wayQ q al)) else nearQ (k * ab (wayQ q al)) (turnsQ q)
def goneQ (q : Nat → Int32) (k al : Int32) : Int32 := if 0 ≤ wayQ q al then farQ q k al else -farQ q k al
def offQ (q : Nat → Int32) (dx dy : Int32) : Int32 := ab ((q 7 + dx) * (q 7 + dx) + (q 8 + dy) * (q 8 + dy) - q 1 * q 1 - q 2 * q 2)
theorem ePc_0 : (.inr (2, [.int 0, .int 0, .int 0, .int 0, .int 0, .int 0, .int 0, .int 0, .int 0, .int 0]) : ax_E) = ePc (fun _ => 0) := by
  have e : turnsQ (fun _ => 0) = 0 := by decide +kernel
  unfold ePc; rw [e]
theorem two_ne {b : Int32} (h : 0 < b) : ¬ 2 * b = 0 := by
  intro e
  have h2 := Int32.toInt_lt b
  rw [fb_lt, ti_0] at h
  have := congrArg Int32.toInt e
  rw [Int32.toInt_mul, ti_2, ti_0] at this
  have h3 := Int.bmod_def (2 * b.toInt) (2 ^ 32)
  rw [this] at h3
  have h4 : (2 * b.toInt) % ((2 ^ 32 : Nat) : Int) = 2 * b.toInt := Int.emod_eq_of_lt (by omega) (by omega)
  rw [h4] at h3
  split at h3 <;> omega
set_option maxHeartbeats 400000 in
set_option maxRecDepth 100000 in
theorem cn_X2_tell {h : ax_H} {n : Nat}  {p : Nat} {q : Nat → Int32} (hp0 : h p = some (ePc q)) (k a b c : Int32) : ax_C yX2_tell cX2_tell 5 none 1 0 0 [.ref p, .int k, .int a, .int b, .int c] h n (kv (hp h p (ePc (tl k a b c))) n) := by
  refine ax_C.go RX2 "tell" [some (.ref p), some (.int k), some (.int a), some (.int b), some (.int c)] rfl rfl pn_X2 (lb rfl) rfl (fun l G cy bs => ?_)
  refine al0 dX2_tell_0 ?_
  refine il1 dX2_tell_1 ?_
  refine p_X2_9 dX2_tell_2 hp0 ?_
  refine al0 dX2_tell_5 ?_
  refine il2 dX2_tell_6 ?_
  refine p_X2_15 dX2_tell_7 (hp_s _ _ _) ?_
  refine xt_eq (hp_hp _ _ _ _) ?_
  refine al0 dX2_tell_10 ?_
  refine il3 dX2_tell_11 ?_
  refine p_X2_18 dX2_tell_12 (hp_s _ _ _) ?_
  refine xt_eq (hp_hp _ _ _ _) ?_
  refine al0 dX2_tell_15 ?_
  refine il4 dX2_tell_16 ?_
  refine p_X2_21 dX2_tell_18 (hp_s _ _ _) ?_
  refine xt_eq (hp_hp _ _ _ _) ?_
  refine al0 dX2_tell_21 ?_
  refine xt_iconst (0) dX2_tell_22 rfl ?_
  refine p_X2_24 dX2_tell_23 (hp_s _ _ _) ?_
  refine xt_eq (hp_hp _ _ _ _) ?_
  refine al0 dX2_tell_26 ?_
  refine il2 dX2_tell_27 ?_
  refine s_X2_27 dX2_tell_28 ⟨lb rfl, lb rfl, lb rfl, lb rfl⟩ ?_
  refine il3 dX2_tell_31 ?_
  refine s_X2_27 dX2_tell_32 ⟨lb rfl, lb rfl, lb rfl, lb rfl⟩ ?_
  refine il4 dX2_tell_35 ?_
  refine s_X2_27 dX2_tell_37 ⟨lb rfl, lb rfl, lb rfl, lb rfl⟩ ?_
  refine s_X2_33 dX2_tell_40 ⟨lb rfl, lb rfl, lb rfl, lb rfl⟩ ?_
  refine s_X2_33 dX2_tell_43 ⟨lb rfl, lb rfl, lb rfl, lb rfl⟩ ?_
  refine p_X2_37 dX2_tell_46 (hp_s _ _ _) ?_
  refine xt_eq (hp_hp _ _ _ _) ?_
  refine al0 dX2_tell_49 ?_
  refine xt_iconst (1) dX2_tell_50 rfl ?_
  refine p_X2_40 dX2_tell_51 (hp_s _ _ _) ?_
  refine xt_eq (hp_hp _ _ _ _) ?_
  refine al0 dX2_tell_54 ?_
  refine xt_iconst (0) dX2_tell_55 rfl ?_
  refine p_X2_43 dX2_tell_56 (hp_s _ _ _) ?_
  refine xt_eq (hp_hp _ _ _ _) ?_
  refine al0 dX2_tell_59 ?_
  refine il2 dX2_tell_60 ?_
  refine xt_ineg dX2_tell_61 ?_
  refine p_X2_46 dX2_tell_62 (hp_s _ _ _) ?_
  refine xt_eq (hp_hp _ _ _ _) ?_
  refine al0 dX2_tell_65 ?_
  refine il3 dX2_tell_66 ?_
  refine xt_ineg dX2_tell_67 ?_
  refine p_X2_49 dX2_tell_68 (hp_s _ _ _) ?_
  refine xt_eq (hp_hp _ _ _ _) ?_
  exact xt_ret dX2_tell_71 rfl (lb rfl) (lb rfl) ⟨rfl, rfl, rfl⟩
set_option maxHeartbeats 400000 in
set_option maxRecDepth 100000 in
theorem cn_X2_copyFrom {h : ax_H} {n : Nat}  {p : Nat} {q : Nat → Int32} (hp0 : h p = some (ePc q)) {p2 : Nat} {q2 : Nat → Int32} (hp2 : h p2 = some (ePc q2)) (hne : p2 ≠ p) : ax_C yX2_copyFrom cX2_copyFrom 2 none 0 0 0 [.ref p, .ref p2] h n (kv (hp h p (ePc q2)) n) := by
  refine ax_C.go RX2 "copyFrom" [some (.ref p), some (.ref p2)] rfl rfl pn_X2 (lb rfl) rfl (fun l G cy bs => ?_)
  refine al0 dX2_copyFrom_0 ?_
  refine al1 dX2_copyFrom_1 ?_
  refine g_X2_9 dX2_copyFrom_2 hp2 ?_
  refine p_X2_9 dX2_copyFrom_5 hp0 ?_
  refine al0 dX2_copyFrom_8 ?_
  refine al1 dX2_copyFrom_9 ?_
  refine g_X2_15 dX2_copyFrom_10 (hp_nt (by omega) hp2) ?_
  refine p_X2_15 dX2_copyFrom_13 (hp_s _ _ _) ?_
  refine xt_eq (hp_hp _ _ _ _) ?_
  refine al0 dX2_copyFrom_16 ?_
  refine al1 dX2_copyFrom_17 ?_
  refine g_X2_18 dX2_copyFrom_18 (hp_nt (by omega) hp2) ?_
  refine p_X2_18 dX2_copyFrom_21 (hp_s _ _ _) ?_
  refine xt_eq (hp_hp _ _ _ _) ?_
  refine al0 dX2_copyFrom_24 ?_
  refine al1 dX2_copyFrom_25 ?_
  refine g_X2_21 dX2_copyFrom_26 (hp_nt (by omega) hp2) ?_
  refine p_X2_21 dX2_copyFrom_29 (hp_s _ _ _) ?_
  refine xt_eq (hp_hp _ _ _ _) ?_
  refine al0 dX2_copyFrom_32 ?_
  refine al1 dX2_copyFrom_33 ?_
  refine g_X2_24 dX2_copyFrom_34 (hp_nt (by omega) hp2) ?_
  refine p_X2_24 dX2_copyFrom_37 (hp_s _ _ _) ?_
  refine xt_eq (hp_hp _ _ _ _) ?_
  refine al0 dX2_copyFrom_40 ?_
  refine al1 dX2_copyFrom_41 ?_
  refine g_X2_37 dX2_copyFrom_42 (hp_nt (by omega) hp2) ?_
  refine p_X2_37 dX2_copyFrom_45 (hp_s _ _ _) ?_
  refine xt_eq (hp_hp _ _ _ _) ?_
  refine al0 dX2_copyFrom_48 ?_
  refine al1 dX2_copyFrom_49 ?_
  refine g_X2_40 dX2_copyFrom_50 (hp_nt (by omega) hp2) ?_
  refine p_X2_40 dX2_copyFrom_53 (hp_s _ _ _) ?_
  refine xt_eq (hp_hp _ _ _ _) ?_
  refine al0 dX2_copyFrom_56 ?_
  refine al1 dX2_copyFrom_57 ?_
  refine g_X2_43 dX2_copyFrom_58 (hp_nt (by omega) hp2) ?_
  refine p_X2_43 dX2_copyFrom_61 (hp_s _ _ _) ?_
  refine xt_eq (hp_hp _ _ _ _) ?_
  refine al0 dX2_copyFrom_64 ?_
  refine al1 dX2_copyFrom_65 ?_
  refine g_X2_46 dX2_copyFrom_66 (hp_nt (by omega) hp2) ?_
  refine p_X2_46 dX2_copyFrom_69 (hp_s _ _ _) ?_
  refine xt_eq (hp_hp _ _ _ _) ?_
  refine al0 dX2_copyFrom_72 ?_
  refine al1 dX2_copyFrom_73 ?_
  refine g_X2_49 dX2_copyFrom_74 (hp_nt (by omega) hp2) ?_
  refine p_X2_49 dX2_copyFrom_77 (hp_s _ _ _) ?_
  refine xt_eq (hp_hp _ _ _ _) ?_
  exact xt_ret dX2_copyFrom_80 rfl (lb rfl) (lb rfl) ⟨rfl, rfl, rfl⟩
set_option maxHeartbeats 400000 in
set_option maxRecDepth 100000 in
theorem cn_X2_isArc {h : ax_H} {n : Nat}  {p : Nat} {q : Nat → Int32} (hp0 : h p = some (ePc q)) : ax_C yX2_isArc cX2_isArc 1 (some .boolean) 0 0 0 [.ref p] h n (ki (isA q) h n) := by
  refine ax_C.go RX2 "isArc" [some (.ref p)] rfl rfl pn_X2 (lb rfl) rfl (fun l G cy bs => ?_)
  refine al0 dX2_isArc_0 ?_
  refine g_X2_9 dX2_isArc_1 hp0 ?_
  refine xt_iconst (3) dX2_isArc_4 rfl ?_
  apply xj_icmp_eq 16 dX2_isArc_5 rfl
  · intro k5
    refine ⟨fun c5 => ?_, fun c5 => ?_⟩
    · refine xt_iconst (1) dX2_isArc_16 rfl ?_
      refine xt_goto 21 dX2_isArc_17 rfl ?_
      exact xt_it1 k5 c5
    · refine al0 dX2_isArc_8 ?_
      refine g_X2_9 dX2_isArc_9 hp0 ?_
      refine xt_iconst (4) dX2_isArc_12 rfl ?_
      apply xj_icmp_ne 20 dX2_isArc_13 rfl
      · intro k13
        refine ⟨fun c13 => ?_, fun c13 => ?_⟩
        · refine xt_iconst (0) dX2_isArc_20 rfl ?_
          exact xt_in1 k13 c13
        · refine xt_iconst (1) dX2_isArc_16 rfl ?_
          refine xt_goto 21 dX2_isArc_17 rfl ?_
          exact xt_in2 k13 c13
      · skip
        exact xt_it2 k5 c5
  · skip
    exact xt_zret dX2_isArc_21 rfl (by split <;> (try split) <;> simp) (lb rfl) (lb rfl) ⟨rfl, rfl, rfl⟩
set_option maxHeartbeats 400000 in
set_option maxRecDepth 100000 in
theorem cn_X2_way {h : ax_H} {n : Nat}  {p : Nat} {q : Nat → Int32} (hp0 : h p = some (ePc q)) (al : Int32) : ax_C yX2_way cX2_way 2 (some .int) 0 0 0 [.ref p, .int al] h n (ki (wayQ q al) h n) := by
  refine ax_C.go RX2 "way" [some (.ref p), some (.int al)] rfl rfl pn_X2 (lb rfl) rfl (fun l G cy bs => ?_)
  refine il1 dX2_way_0 ?_
  refine xt_if_ne 9 dX2_way_1 rfl (fun c1 => ?_) (fun c1 => ?_)
  · refine il1 dX2_way_9 ?_
    refine xt_iconst (1) dX2_way_10 rfl ?_
    apply xj_icmp_ne 21 dX2_way_11 rfl
    · intro k11
      refine ⟨fun c11 => ?_, fun c11 => ?_⟩
      · refine al0 dX2_way_21 ?_
        refine g_X2_21 dX2_way_22 hp0 ?_
        exact xt_in1 k11 c11
      · refine al0 dX2_way_14 ?_
        refine g_X2_18 dX2_way_15 hp0 ?_
        refine xt_goto 25 dX2_way_18 rfl ?_
        exact xt_in2 k11 c11
    · skip
      exact xt_iret dX2_way_25 rfl (lb rfl) (lb rfl) ⟨by unfold wayQ; rw [if_neg c1], rfl, rfl⟩
  · refine al0 dX2_way_4 ?_
    refine g_X2_15 dX2_way_5 hp0 ?_
    exact xt_iret dX2_way_8 rfl (lb rfl) (lb rfl) ⟨by unfold wayQ; rw [if_pos c1], rfl, rfl⟩
set_option maxHeartbeats 400000 in
set_option maxRecDepth 100000 in
theorem cn_X2_total {h : ax_H} {n : Nat}  {p : Nat} {q : Nat → Int32} (hp0 : h p = some (ePc q)) : ax_C yX2_total cX2_total 1 (some .int) 1 0 0 [.ref p] h n (ki (totQ q) h n) := by
  refine ax_C.go RX2 "total" [some (.ref p)] rfl rfl pn_X2 (lb rfl) rfl (fun l G cy bs => ?_)
  refine al0 dX2_total_0 ?_
  refine s_X2_52 dX2_total_1 (cn_X2_isArc hp0) hp0 ⟨lb rfl, lb rfl, lb rfl, lb rfl⟩ ?_
  refine xt_if_eq 12 dX2_total_4 rfl (fun c4 => ?_) (fun c4 => ?_)
  · refine al0 dX2_total_12 ?_
    refine g_X2_9 dX2_total_13 hp0 ?_
    refine xt_iconst (2) dX2_total_16 rfl ?_
    apply xj_icmp_ne 46 dX2_total_17 rfl
    · intro k17
      refine ⟨fun c17 => ?_, fun c17 => ?_⟩
      · refine al0 dX2_total_46 ?_
        refine g_X2_37 dX2_total_47 hp0 ?_
        exact xt_in1 k17 c17
      · refine al0 dX2_total_20 ?_
        refine g_X2_15 dX2_total_21 hp0 ?_
        refine s_X2_27 dX2_total_24 ⟨lb rfl, lb rfl, lb rfl, lb rfl⟩ ?_
        refine al0 dX2_total_27 ?_
        refine g_X2_18 dX2_total_28 hp0 ?_
        refine s_X2_27 dX2_total_31 ⟨lb rfl, lb rfl, lb rfl, lb rfl⟩ ?_
        refine xt_iadd dX2_total_34 ?_
        refine al0 dX2_total_35 ?_
        refine g_X2_21 dX2_total_36 hp0 ?_
        refine s_X2_27 dX2_total_39 ⟨lb rfl, lb rfl, lb rfl, lb rfl⟩ ?_
        refine xt_iadd dX2_total_42 ?_
        refine xt_goto 50 dX2_total_43 rfl ?_
        exact xt_in2 k17 c17
    · skip
      exact xt_iret dX2_total_50 rfl (lb rfl) (lb rfl) ⟨by unfold totQ; rw [if_pos c4], rfl, rfl⟩
  · refine al0 dX2_total_7 ?_
    refine g_X2_21 dX2_total_8 hp0 ?_
    exact xt_iret dX2_total_11 rfl (lb rfl) (lb rfl) ⟨by unfold totQ; rw [if_neg c4], rfl, rfl⟩
set_option maxHeartbeats 400000 in
set_option maxRecDepth 100000 in
theorem cn_X2_remaining {h : ax_H} {n : Nat}  {p : Nat} {q : Nat → Int32} (hp0 : h p = some (ePc q)) : ax_C yX2_remaining cX2_remaining 1 (some .int) 2 0 0 [.ref p] h n (ki (remQ q) h n) := by
  refine ax_C.go RX2 "remaining" [some (.ref p)] rfl rfl pn_X2 (lb rfl) rfl (fun l G cy bs => ?_)
  refine al0 dX2_remaining_0 ?_
  refine s_X2_56 dX2_remaining_1 (cn_X2_total hp0) hp0 ⟨lb rfl, lb rfl, lb rfl, lb rfl⟩ ?_
  refine al0 dX2_remaining_4 ?_
  refine g_X2_24 dX2_remaining_5 hp0 ?_
  refine xt_isub dX2_remaining_8 ?_
  exact xt_iret dX2_remaining_9 rfl (lb rfl) (lb rfl) ⟨rfl, rfl, rfl⟩
set_option maxHeartbeats 400000 in
set_option maxRecDepth 100000 in
theorem cn_X2_nearest {h : ax_H} {n : Nat} (a b : Int32)  : ax_C yX2_nearest cX2_nearest 2 (some .int) 0 0 0 [.int a, .int b] h n (ki (nearQ a b) h n) := by
  refine ax_C.go RX2 "nearest" [some (.int a), some (.int b)] rfl rfl pn_X2 (lb rfl) rfl (fun l G cy bs => ?_)
  refine il1 dX2_nearest_0 ?_
  refine xt_if_gt 6 dX2_nearest_1 rfl (fun c1 => ?_) (fun c1 => ?_)
  · refine xt_iconst (2) dX2_nearest_6 rfl ?_
    refine il0 dX2_nearest_7 ?_
    refine xt_imul dX2_nearest_8 ?_
    refine il1 dX2_nearest_9 ?_
    refine xt_iadd dX2_nearest_10 ?_
    refine xt_iconst (1) dX2_nearest_11 rfl ?_
    refine xt_isub dX2_nearest_12 ?_
    refine xt_iconst (2) dX2_nearest_13 rfl ?_
    refine il1 dX2_nearest_14 ?_
    refine xt_imul dX2_nearest_15 ?_
    refine xt_idiv dX2_nearest_16 (two_ne c1) ?_
    exact xt_iret dX2_nearest_17 rfl (lb rfl) (lb rfl) ⟨by unfold nearQ; rw [if_pos c1], rfl, rfl⟩
  · refine xt_iconst (0) dX2_nearest_4 rfl ?_
    exact xt_iret dX2_nearest_5 rfl (lb rfl) (lb rfl) ⟨by unfold nearQ; rw [if_neg c1], rfl, rfl⟩
set_option maxHeartbeats 400000 in
set_option maxRecDepth 100000 in
theorem cn_X2_gone {h : ax_H} {n : Nat}  {p : Nat} {q : Nat → Int32} (hp0 : h p = some (ePc q)) (k al : Int32) : ax_C yX2_gone cX2_gone 5 (some .int) 1 0 0 [.ref p, .int k, .int al] h n (ki (goneQ q k al) h n) := by
  refine ax_C.go RX2 "gone" [some (.ref p), some (.int k), some (.int al), none, none] rfl rfl pn_X2 (lb rfl) rfl (fun l G cy bs => ?_)
  refine al0 dX2_gone_0 ?_
  refine il2 dX2_gone_1 ?_
  refine s_X2_60 dX2_gone_2 (cn_X2_way hp0 _) hp0 ⟨lb rfl, lb rfl, lb rfl, lb rfl⟩ ?_
  refine s_X2_27 dX2_gone_5 ⟨lb rfl, lb rfl, lb rfl, lb rfl⟩ ?_
  refine is3 dX2_gone_8 (by decide) rfl ?_
  refine al0 dX2_gone_9 ?_
  refine g_X2_9 dX2_gone_10 hp0 ?_
  refine xt_iconst (1) dX2_gone_13 rfl ?_
  apply xj_icmp_ne 25 dX2_gone_14 rfl
  · intro k14
    refine ⟨fun c14 => ?_, fun c14 => ?_⟩
    · refine il1 dX2_gone_25 ?_
      refine il3 dX2_gone_26 ?_
      refine xt_imul dX2_gone_27 ?_
      refine al0 dX2_gone_28 ?_
      refine g_X2_37 dX2_gone_29 hp0 ?_
      refine s_X2_66 dX2_gone_32 (cn_X2_nearest _ _) ⟨lb rfl, lb rfl, lb rfl, lb rfl⟩ ?_
      exact xt_in1 k14 c14
    · refine il1 dX2_gone_17 ?_
      refine il3 dX2_gone_18 ?_
      refine s_X2_63 dX2_gone_19 ⟨lb rfl, lb rfl, lb rfl, lb rfl⟩ ?_
      refine xt_goto 35 dX2_gone_22 rfl ?_
      exact xt_in2 k14 c14
  · skip
    refine is4 dX2_gone_35 (by decide) rfl ?_
    refine al0 dX2_gone_37 ?_
    refine il2 dX2_gone_38 ?_
    refine s_X2_60 dX2_gone_39 (cn_X2_way hp0 _) hp0 ⟨lb rfl, lb rfl, lb rfl, lb rfl⟩ ?_
    apply xj_if_ge 51 dX2_gone_42 rfl
    · intro k42
      refine ⟨fun c42 => ?_, fun c42 => ?_⟩
      · refine il4 dX2_gone_51 ?_
        exact xt_it1 k42 c42
      · refine il4 dX2_gone_45 ?_
        refine xt_ineg dX2_gone_47 ?_
        refine xt_goto 53 dX2_gone_48 rfl ?_
        exact xt_it2 k42 c42
    · skip
      exact xt_iret dX2_gone_53 rfl (lb rfl) (lb rfl) ⟨rfl, rfl, rfl⟩
set_option maxHeartbeats 400000 in
set_option maxRecDepth 100000 in
theorem cn_X2_offCircle {h : ax_H} {n : Nat}  {p : Nat} {q : Nat → Int32} (hp0 : h p = some (ePc q)) (dx dy : Int32) : ax_C yX2_offCircle cX2_offCircle 3 (some .int) 1 0 0 [.ref p, .int dx, .int dy] h n (ki (offQ q dx dy) h n) := by
  refine ax_C.go RX2 "offCircle" [some (.ref p), some (.int dx), some (.int dy)] rfl rfl pn_X2 (lb rfl) rfl (fun l G cy bs => ?_)
  refine al0 dX2_offCircle_0 ?_
  refine g_X2_46 dX2_offCircle_1 hp0 ?_
  refine il1 dX2_offCircle_4 ?_
  refine xt_iadd dX2_offCircle_5 ?_
  refine al0 dX2_offCircle_6 ?_
  refine g_X2_46 dX2_offCircle_7 hp0 ?_
  refine il1 dX2_offCircle_10 ?_
  refine xt_iadd dX2_offCircle_11 ?_
  refine xt_imul dX2_offCircle_12 ?_
  refine al0 dX2_offCircle_13 ?_
  refine g_X2_49 dX2_offCircle_14 hp0 ?_
  refine il2 dX2_offCircle_17 ?_
  refine xt_iadd dX2_offCircle_18 ?_
  refine al0 dX2_offCircle_19 ?_
  refine g_X2_49 dX2_offCircle_20 hp0 ?_
  refine il2 dX2_offCircle_23 ?_
  refine xt_iadd dX2_offCircle_24 ?_
  refine xt_imul dX2_offCircle_25 ?_
  refine xt_iadd dX2_offCircle_26 ?_
  refine al0 dX2_offCircle_27 ?_
  refine g_X2_15 dX2_offCircle_28 hp0 ?_
  refine al0 dX2_offCircle_31 ?_
  refine g_X2_15 dX2_offCircle_32 hp0 ?_
  refine xt_imul dX2_offCircle_35 ?_
  refine xt_isub dX2_offCircle_36 ?_
  refine al0 dX2_offCircle_37 ?_
  refine g_X2_18 dX2_offCircle_38 hp0 ?_
  refine al0 dX2_offCircle_41 ?_
  refine g_X2_18 dX2_offCircle_42 hp0 ?_
  refine xt_imul dX2_offCircle_45 ?_
  refine xt_isub dX2_offCircle_46 ?_
  refine s_X2_27 dX2_offCircle_47 ⟨lb rfl, lb rfl, lb rfl, lb rfl⟩ ?_
  exact xt_iret dX2_offCircle_50 rfl (lb rfl) (lb rfl) ⟨rfl, rfl, rfl⟩
abbrev csg (x : Int32) : Int32 := if x = 0 then 0 else if 0 < x then 1 else -1
def cdx (q : Nat → Int32) : Int32 := if q 0 = 3 then csg (-(q 8)) else csg (q 8)
def cdy (q : Nat → Int32) : Int32 := if q 0 = 3 then csg (q 7) else csg (-(q 7))
def cA (dx dy oy ob : Int32) : Int32 × Int32 := if ob < oy then (dx, dy) else (0, dy)
def cD (dx dy ox oy ob : Int32) : Int32 × Int32 := if dx = 0 then (dx, dy) else if dy = 0 then (dx, dy) else if oy < ox then cA dx dy oy ob else if ob < ox then cA dx dy oy ob else (dx, 0)
def cM (q : Nat → Int32) : Int32 × Int32 := cD (cdx q) (cdy q) (offQ q (cdx q) 0) (offQ q 0 (cdy q)) (offQ q (cdx q) (cdy q))
def arcQ (q : Nat → Int32) : Nat → Int32 := upd (upd q 7 (q 7 + (cM q).1)) 8 (q 8 + (cM q).2)
set_option maxHeartbeats 400000 in
set_option maxRecDepth 100000 in
theorem cn_X2_advanceArc {h : ax_H} {n : Nat}  {p : Nat} {q : Nat → Int32} (hp0 : h p = some (ePc q)) {mv : Nat} {f : Nat → Int32} (hmv : h mv = some (ax_I 3 f)) (hpm : mv ≠ p) : ax_C yX2_advanceArc cX2_advanceArc 7 none 2 0 0 [.ref p, .ref mv] h n (kv (hp (hp h mv (ax_I 3 (upd (upd f 0 (cM q).1) 1 (cM q).2))) p (ePc (arcQ q))) n) := by
  refine ax_C.go RX2 "advanceArc" [some (.ref p), some (.ref mv), none, none, none, none, none] rfl rfl pn_X2 (lb rfl) rfl (fun l G cy bs => ?_)
  refine al0 dX2_advanceArc_0 ?_
  refine g_X2_9 dX2_advanceArc_1 hp0 ?_
  refine xt_iconst (3) dX2_advanceArc_4 rfl ?_
  apply xj_icmp_ne 19 dX2_advanceArc_5 rfl
  · intro k5
    refine ⟨fun c5 => ?_, fun c5 => ?_⟩
    · refine al0 dX2_advanceArc_19 ?_
      refine g_X2_49 dX2_advanceArc_20 hp0 ?_
      refine s_X2_79 dX2_advanceArc_23 (cn_X7_sign _) ⟨lb rfl, lb rfl, lb rfl, lb rfl⟩ ?_
      exact xt_in1 k5 c5
    · refine al0 dX2_advanceArc_8 ?_
      refine g_X2_49 dX2_advanceArc_9 hp0 ?_
      refine xt_ineg dX2_advanceArc_12 ?_
      refine s_X2_79 dX2_advanceArc_13 (cn_X7_sign _) ⟨lb rfl, lb rfl, lb rfl, lb rfl⟩ ?_
      refine xt_goto 26 dX2_advanceArc_16 rfl ?_
      exact xt_in2 k5 c5
  · skip
    refine xt_nm (fun dx e_dx => ?_)
    refine is2 dX2_advanceArc_26 (by decide) rfl ?_
    refine al0 dX2_advanceArc_27 ?_
    refine g_X2_9 dX2_advanceArc_28 hp0 ?_
    refine xt_iconst (3) dX2_advanceArc_31 rfl ?_
    apply xj_icmp_ne 45 dX2_advanceArc_32 rfl
    · intro k32
      refine ⟨fun c32 => ?_, fun c32 => ?_⟩
      · refine al0 dX2_advanceArc_45 ?_
        refine g_X2_46 dX2_advanceArc_46 hp0 ?_
        refine xt_ineg dX2_advanceArc_49 ?_
        refine s_X2_79 dX2_advanceArc_50 (cn_X7_sign _) ⟨lb rfl, lb rfl, lb rfl, lb rfl⟩ ?_
        exact xt_in1 k32 c32
      · refine al0 dX2_advanceArc_35 ?_
        refine g_X2_46 dX2_advanceArc_36 hp0 ?_
        refine s_X2_79 dX2_advanceArc_39 (cn_X7_sign _) ⟨lb rfl, lb rfl, lb rfl, lb rfl⟩ ?_
        refine xt_goto 53 dX2_advanceArc_42 rfl ?_
        exact xt_in2 k32 c32
    · skip
      refine xt_nm (fun dy e_dy => ?_)
      refine is3 dX2_advanceArc_53 (by decide) rfl ?_
      refine il2 dX2_advanceArc_54 ?_
      refine xt_if_eq 114 dX2_advanceArc_55 rfl (fun c55 => ?_) (fun c55 => ?_)
      · refine al1 dX2_advanceArc_114 ?_
        refine xt_iconst (0) dX2_advanceArc_115 rfl ?_
        refine il2 dX2_advanceArc_116 ?_
        refine xt_iast (0) hmv (by omega) rfl (by decide) dX2_advanceArc_117 ?_
        refine al1 dX2_advanceArc_118 ?_
        refine xt_iconst (1) dX2_advanceArc_119 rfl ?_
        refine il3 dX2_advanceArc_120 ?_
        refine xt_iast (1) (hp_s _ _ _) (by omega) rfl (by decide) dX2_advanceArc_121 ?_
        refine xt_eq (hp_hp _ _ _ _) ?_
        refine al0 dX2_advanceArc_122 ?_
        refine xt_dup dX2_advanceArc_123 rfl ?_
        refine g_X2_46 dX2_advanceArc_124 (hp_nt (by omega) hp0) ?_
        refine il2 dX2_advanceArc_127 ?_
        refine xt_iadd dX2_advanceArc_128 ?_
        refine p_X2_46 dX2_advanceArc_129 (hp_nt (by omega) hp0) ?_
        refine al0 dX2_advanceArc_132 ?_
        refine xt_dup dX2_advanceArc_133 rfl ?_
        refine g_X2_49 dX2_advanceArc_134 (hp_s _ _ _) ?_
        refine il3 dX2_advanceArc_137 ?_
        refine xt_iadd dX2_advanceArc_138 ?_
        refine p_X2_49 dX2_advanceArc_139 (hp_s _ _ _) ?_
        refine xt_eq (hp_hp _ _ _ _) ?_
        exact xt_ret dX2_advanceArc_142 rfl (lb rfl) (lb rfl) ⟨rfl, by have f1 : cdx q = dx := e_dx.symm; have f2 : cdy q = dy := e_dy.symm; have e : cM q = (dx, dy) := (by unfold cM; rw [f1, f2]; unfold cD; rw [if_pos c55]); unfold arcQ; rw [e]; rfl, rfl⟩
      · refine il3 dX2_advanceArc_58 ?_
        refine xt_if_eq 114 dX2_advanceArc_59 rfl (fun c59 => ?_) (fun c59 => ?_)
        · refine al1 dX2_advanceArc_114 ?_
          refine xt_iconst (0) dX2_advanceArc_115 rfl ?_
          refine il2 dX2_advanceArc_116 ?_
          refine xt_iast (0) hmv (by omega) rfl (by decide) dX2_advanceArc_117 ?_
          refine al1 dX2_advanceArc_118 ?_
          refine xt_iconst (1) dX2_advanceArc_119 rfl ?_
          refine il3 dX2_advanceArc_120 ?_
          refine xt_iast (1) (hp_s _ _ _) (by omega) rfl (by decide) dX2_advanceArc_121 ?_
          refine xt_eq (hp_hp _ _ _ _) ?_
          refine al0 dX2_advanceArc_122 ?_
          refine xt_dup dX2_advanceArc_123 rfl ?_
          refine g_X2_46 dX2_advanceArc_124 (hp_nt (by omega) hp0) ?_
          refine il2 dX2_advanceArc_127 ?_
          refine xt_iadd dX2_advanceArc_128 ?_
          refine p_X2_46 dX2_advanceArc_129 (hp_nt (by omega) hp0) ?_
          refine al0 dX2_advanceArc_132 ?_
          refine xt_dup dX2_advanceArc_133 rfl ?_
          refine g_X2_49 dX2_advanceArc_134 (hp_s _ _ _) ?_
          refine il3 dX2_advanceArc_137 ?_
          refine xt_iadd dX2_advanceArc_138 ?_
          refine p_X2_49 dX2_advanceArc_139 (hp_s _ _ _) ?_
          refine xt_eq (hp_hp _ _ _ _) ?_
          exact xt_ret dX2_advanceArc_142 rfl (lb rfl) (lb rfl) ⟨rfl, by have f1 : cdx q = dx := e_dx.symm; have f2 : cdy q = dy := e_dy.symm; have e : cM q = (dx, dy) := (by unfold cM; rw [f1, f2]; unfold cD; rw [if_neg c55, if_pos c59]); unfold arcQ; rw [e]; rfl, rfl⟩
        · refine al0 dX2_advanceArc_62 ?_
          refine il2 dX2_advanceArc_63 ?_
          refine xt_iconst (0) dX2_advanceArc_64 rfl ?_
          refine s_X2_82 dX2_advanceArc_65 (cn_X2_offCircle hp0 _ _) hp0 ⟨lb rfl, lb rfl, lb rfl, lb rfl⟩ ?_
          refine is4 dX2_advanceArc_68 (by decide) rfl ?_
          refine al0 dX2_advanceArc_70 ?_
          refine xt_iconst (0) dX2_advanceArc_71 rfl ?_
          refine il3 dX2_advanceArc_72 ?_
          refine s_X2_82 dX2_advanceArc_73 (cn_X2_offCircle hp0 _ _) hp0 ⟨lb rfl, lb rfl, lb rfl, lb rfl⟩ ?_
          refine is5 dX2_advanceArc_76 (by decide) rfl ?_
          refine al0 dX2_advanceArc_78 ?_
          refine il2 dX2_advanceArc_79 ?_
          refine il3 dX2_advanceArc_80 ?_
          refine s_X2_82 dX2_advanceArc_81 (cn_X2_offCircle hp0 _ _) hp0 ⟨lb rfl, lb rfl, lb rfl, lb rfl⟩ ?_
          refine is6 dX2_advanceArc_84 (by decide) rfl ?_
          refine il4 dX2_advanceArc_86 ?_
          refine il5 dX2_advanceArc_88 ?_
          refine xt_icmp_gt 105 dX2_advanceArc_90 rfl (fun c90 => ?_) (fun c90 => ?_)
          · refine il5 dX2_advanceArc_105 ?_
            refine il6 dX2_advanceArc_107 ?_
            refine xt_icmp_gt 114 dX2_advanceArc_109 rfl (fun c109 => ?_) (fun c109 => ?_)
            · refine al1 dX2_advanceArc_114 ?_
              refine xt_iconst (0) dX2_advanceArc_115 rfl ?_
              refine il2 dX2_advanceArc_116 ?_
              refine xt_iast (0) hmv (by omega) rfl (by decide) dX2_advanceArc_117 ?_
              refine al1 dX2_advanceArc_118 ?_
              refine xt_iconst (1) dX2_advanceArc_119 rfl ?_
              refine il3 dX2_advanceArc_120 ?_
              refine xt_iast (1) (hp_s _ _ _) (by omega) rfl (by decide) dX2_advanceArc_121 ?_
              refine xt_eq (hp_hp _ _ _ _) ?_
              refine al0 dX2_advanceArc_122 ?_
              refine xt_dup dX2_advanceArc_123 rfl ?_
              refine g_X2_46 dX2_advanceArc_124 (hp_nt (by omega) hp0) ?_
              refine il2 dX2_advanceArc_127 ?_
              refine xt_iadd dX2_advanceArc_128 ?_
              refine p_X2_46 dX2_advanceArc_129 (hp_nt (by omega) hp0) ?_
              refine al0 dX2_advanceArc_132 ?_
              refine xt_dup dX2_advanceArc_133 rfl ?_
              refine g_X2_49 dX2_advanceArc_134 (hp_s _ _ _) ?_
              refine il3 dX2_advanceArc_137 ?_
              refine xt_iadd dX2_advanceArc_138 ?_
              refine p_X2_49 dX2_advanceArc_139 (hp_s _ _ _) ?_
              refine xt_eq (hp_hp _ _ _ _) ?_
              exact xt_ret dX2_advanceArc_142 rfl (lb rfl) (lb rfl) ⟨rfl, by have f1 : cdx q = dx := e_dx.symm; have f2 : cdy q = dy := e_dy.symm; have e : cM q = (dx, dy) := (by unfold cM; rw [f1, f2]; unfold cD; rw [if_neg c55, if_neg c59, if_pos c90]; unfold cA; rw [if_pos c109]); unfold arcQ; rw [e]; rfl, rfl⟩
            · refine xt_iconst (0) dX2_advanceArc_112 rfl ?_
              refine is2 dX2_advanceArc_113 (by decide) rfl ?_
              refine al1 dX2_advanceArc_114 ?_
              refine xt_iconst (0) dX2_advanceArc_115 rfl ?_
              refine il2 dX2_advanceArc_116 ?_
              refine xt_iast (0) hmv (by omega) rfl (by decide) dX2_advanceArc_117 ?_
              refine al1 dX2_advanceArc_118 ?_
              refine xt_iconst (1) dX2_advanceArc_119 rfl ?_
              refine il3 dX2_advanceArc_120 ?_
              refine xt_iast (1) (hp_s _ _ _) (by omega) rfl (by decide) dX2_advanceArc_121 ?_
              refine xt_eq (hp_hp _ _ _ _) ?_
              refine al0 dX2_advanceArc_122 ?_
              refine xt_dup dX2_advanceArc_123 rfl ?_
              refine g_X2_46 dX2_advanceArc_124 (hp_nt (by omega) hp0) ?_
              refine il2 dX2_advanceArc_127 ?_
              refine xt_iadd dX2_advanceArc_128 ?_
              refine p_X2_46 dX2_advanceArc_129 (hp_nt (by omega) hp0) ?_
              refine al0 dX2_advanceArc_132 ?_
              refine xt_dup dX2_advanceArc_133 rfl ?_
              refine g_X2_49 dX2_advanceArc_134 (hp_s _ _ _) ?_
              refine il3 dX2_advanceArc_137 ?_
              refine xt_iadd dX2_advanceArc_138 ?_
              refine p_X2_49 dX2_advanceArc_139 (hp_s _ _ _) ?_
              refine xt_eq (hp_hp _ _ _ _) ?_
              exact xt_ret dX2_advanceArc_142 rfl (lb rfl) (lb rfl) ⟨rfl, by have f1 : cdx q = dx := e_dx.symm; have f2 : cdy q = dy := e_dy.symm; have e : cM q = (0, dy) := (by unfold cM; rw [f1, f2]; unfold cD; rw [if_neg c55, if_neg c59, if_pos c90]; unfold cA; rw [if_neg c109]); unfold arcQ; rw [e]; rfl, rfl⟩
          · refine il4 dX2_advanceArc_93 ?_
            refine il6 dX2_advanceArc_95 ?_
            refine xt_icmp_gt 105 dX2_advanceArc_97 rfl (fun c97 => ?_) (fun c97 => ?_)
            · refine il5 dX2_advanceArc_105 ?_
              refine il6 dX2_advanceArc_107 ?_
              refine xt_icmp_gt 114 dX2_advanceArc_109 rfl (fun c109 => ?_) (fun c109 => ?_)
              · refine al1 dX2_advanceArc_114 ?_
                refine xt_iconst (0) dX2_advanceArc_115 rfl ?_
                refine il2 dX2_advanceArc_116 ?_
                refine xt_iast (0) hmv (by omega) rfl (by decide) dX2_advanceArc_117 ?_
                refine al1 dX2_advanceArc_118 ?_
                refine xt_iconst (1) dX2_advanceArc_119 rfl ?_
                refine il3 dX2_advanceArc_120 ?_
                refine xt_iast (1) (hp_s _ _ _) (by omega) rfl (by decide) dX2_advanceArc_121 ?_
                refine xt_eq (hp_hp _ _ _ _) ?_
                refine al0 dX2_advanceArc_122 ?_
                refine xt_dup dX2_advanceArc_123 rfl ?_
                refine g_X2_46 dX2_advanceArc_124 (hp_nt (by omega) hp0) ?_
                refine il2 dX2_advanceArc_127 ?_
                refine xt_iadd dX2_advanceArc_128 ?_
                refine p_X2_46 dX2_advanceArc_129 (hp_nt (by omega) hp0) ?_
                refine al0 dX2_advanceArc_132 ?_
                refine xt_dup dX2_advanceArc_133 rfl ?_
                refine g_X2_49 dX2_advanceArc_134 (hp_s _ _ _) ?_
                refine il3 dX2_advanceArc_137 ?_
                refine xt_iadd dX2_advanceArc_138 ?_
                refine p_X2_49 dX2_advanceArc_139 (hp_s _ _ _) ?_
                refine xt_eq (hp_hp _ _ _ _) ?_
                exact xt_ret dX2_advanceArc_142 rfl (lb rfl) (lb rfl) ⟨rfl, by have f1 : cdx q = dx := e_dx.symm; have f2 : cdy q = dy := e_dy.symm; have e : cM q = (dx, dy) := (by unfold cM; rw [f1, f2]; unfold cD; rw [if_neg c55, if_neg c59, if_neg c90, if_pos c97]; unfold cA; rw [if_pos c109]); unfold arcQ; rw [e]; rfl, rfl⟩
              · refine xt_iconst (0) dX2_advanceArc_112 rfl ?_
                refine is2 dX2_advanceArc_113 (by decide) rfl ?_
                refine al1 dX2_advanceArc_114 ?_
                refine xt_iconst (0) dX2_advanceArc_115 rfl ?_
                refine il2 dX2_advanceArc_116 ?_
                refine xt_iast (0) hmv (by omega) rfl (by decide) dX2_advanceArc_117 ?_
                refine al1 dX2_advanceArc_118 ?_
                refine xt_iconst (1) dX2_advanceArc_119 rfl ?_
                refine il3 dX2_advanceArc_120 ?_
                refine xt_iast (1) (hp_s _ _ _) (by omega) rfl (by decide) dX2_advanceArc_121 ?_
                refine xt_eq (hp_hp _ _ _ _) ?_
                refine al0 dX2_advanceArc_122 ?_
                refine xt_dup dX2_advanceArc_123 rfl ?_
                refine g_X2_46 dX2_advanceArc_124 (hp_nt (by omega) hp0) ?_
                refine il2 dX2_advanceArc_127 ?_
                refine xt_iadd dX2_advanceArc_128 ?_
                refine p_X2_46 dX2_advanceArc_129 (hp_nt (by omega) hp0) ?_
                refine al0 dX2_advanceArc_132 ?_
                refine xt_dup dX2_advanceArc_133 rfl ?_
                refine g_X2_49 dX2_advanceArc_134 (hp_s _ _ _) ?_
                refine il3 dX2_advanceArc_137 ?_
                refine xt_iadd dX2_advanceArc_138 ?_
                refine p_X2_49 dX2_advanceArc_139 (hp_s _ _ _) ?_
                refine xt_eq (hp_hp _ _ _ _) ?_
                exact xt_ret dX2_advanceArc_142 rfl (lb rfl) (lb rfl) ⟨rfl, by have f1 : cdx q = dx := e_dx.symm; have f2 : cdy q = dy := e_dy.symm; have e : cM q = (0, dy) := (by unfold cM; rw [f1, f2]; unfold cD; rw [if_neg c55, if_neg c59, if_neg c90, if_pos c97]; unfold cA; rw [if_neg c109]); unfold arcQ; rw [e]; rfl, rfl⟩
            · refine xt_iconst (0) dX2_advanceArc_100 rfl ?_
              refine is3 dX2_advanceArc_101 (by decide) rfl ?_
              refine xt_goto 114 dX2_advanceArc_102 rfl ?_
              refine al1 dX2_advanceArc_114 ?_
              refine xt_iconst (0) dX2_advanceArc_115 rfl ?_
              refine il2 dX2_advanceArc_116 ?_
              refine xt_iast (0) hmv (by omega) rfl (by decide) dX2_advanceArc_117 ?_
              refine al1 dX2_advanceArc_118 ?_
              refine xt_iconst (1) dX2_advanceArc_119 rfl ?_
              refine il3 dX2_advanceArc_120 ?_
              refine xt_iast (1) (hp_s _ _ _) (by omega) rfl (by decide) dX2_advanceArc_121 ?_
              refine xt_eq (hp_hp _ _ _ _) ?_
              refine al0 dX2_advanceArc_122 ?_
              refine xt_dup dX2_advanceArc_123 rfl ?_
              refine g_X2_46 dX2_advanceArc_124 (hp_nt (by omega) hp0) ?_
              refine il2 dX2_advanceArc_127 ?_
              refine xt_iadd dX2_advanceArc_128 ?_
              refine p_X2_46 dX2_advanceArc_129 (hp_nt (by omega) hp0) ?_
              refine al0 dX2_advanceArc_132 ?_
              refine xt_dup dX2_advanceArc_133 rfl ?_
              refine g_X2_49 dX2_advanceArc_134 (hp_s _ _ _) ?_
              refine il3 dX2_advanceArc_137 ?_
              refine xt_iadd dX2_advanceArc_138 ?_
              refine p_X2_49 dX2_advanceArc_139 (hp_s _ _ _) ?_
              refine xt_eq (hp_hp _ _ _ _) ?_
              exact xt_ret dX2_advanceArc_142 rfl (lb rfl) (lb rfl) ⟨rfl, by have f1 : cdx q = dx := e_dx.symm; have f2 : cdy q = dy := e_dy.symm; have e : cM q = (dx, 0) := (by unfold cM; rw [f1, f2]; unfold cD; rw [if_neg c55, if_neg c59, if_neg c90, if_neg c97]); unfold arcQ; rw [e]; rfl, rfl⟩
