/-! sheets of the class -/
abbrev eSh (s : Nat) (th la sz : Int32) : ax_E := .inr (4, [.ref (s + 1), .int th, .int la, .int sz])
def zL (f : Nat → Int64) : Nat → Nat → Int64
  | 0 => f
  | k + 1 => vp_updL (zL f k) k 0
theorem zL_s (f : Nat → Int64) (k : Nat) : zL f (k + 1) = vp_updL (zL f k) k 0 := rfl
theorem zL_eq (f : Nat → Int64) : ∀ k j, j < k → zL f k j = 0
  | 0, j, h => absurd h (by omega)
  | k + 1, j, h => by
    rw [zL_s, vp_updL]
    by_cases e : j = k
    · rw [if_pos e]
    · rw [if_neg e]; exact zL_eq f k j (by omega)
def hoV (sz i z : Int32) : Int32 := if z < 0 then 0 else if i < 0 then 0 else if sz - z < i then 0 else 1
def rfV (th la sz lane i z : Int32) : Int32 := if th = 0 then -1000011 else if la = lane then (if hoV sz i z = 0 then -1000013 else 0) else -1000012
set_option maxHeartbeats 400000 in
set_option maxRecDepth 100000 in
theorem cn_X4_renew {h : ax_H} {n : Nat}  {s : Nat} {th la sz : Int32} {f : Nat → Int64} (h0 : h s = some (eSh s th la sz)) (h1 : h (s + 1) = some (ax_L 24 f)) (hth : th = 0 ∨ th = 1) (lane z : Int32) : ax_C yX4_renew cX4_renew 4 none 0 0 0 [.ref s, .int lane, .int z] h n (kv (hp (hp h (s + 1) (ax_L 24 (zL f 24))) s (eSh s 1 lane z)) n) := by
  refine ax_C.go RX4 "renew" [some (.ref s), some (.int lane), some (.int z), none] rfl rfl pn_X4 (lb rfl) rfl (fun l G cy bs => ?_)
  have lp : ∀ (d k : Nat), k + d = 24 → ∀ f1 : Nat → Int64, f1 = zL f k → ax_T l G cy bs (ax_rm 0 0 0) RX4 "renew" cX4_renew 4 none (kv (hp (hp h (s + 1) (ax_L 24 (zL f 24))) s (eSh s 1 lane z)) n) 0 0 2 [some (.ref s), some (.int lane), some (.int z), some (.int (nI k))] [] (hp h (s + 1) (ax_L 24 f1)) n 0 0 := by
    intro d
    induction d with
    | zero =>
      intro k hk f1 hf
      obtain rfl : k = 24 := by omega
      subst hf
      refine il3 dX4_renew_2 ?_
      refine xt_bipush (24) dX4_renew_3 rfl ?_
      refine xt_icmp_ge 21 dX4_renew_5 rfl (fun _ => ?_) (fun q => absurd (by decide) q)
      refine al0 dX4_renew_21 ?_
      refine xt_iconst (1) dX4_renew_22 rfl ?_
      refine p_X4_15 dX4_renew_23 (Or.inr rfl) (hp_nt (by omega) h0) ?_
      refine al0 dX4_renew_26 ?_
      refine il1 dX4_renew_27 ?_
      refine p_X4_19 dX4_renew_28 (hp_s _ _ _) ?_
      refine xt_eq (hp_hp _ _ _ _) ?_
      refine al0 dX4_renew_31 ?_
      refine il2 dX4_renew_32 ?_
      refine p_X4_23 dX4_renew_33 (hp_s _ _ _) ?_
      refine xt_eq (hp_hp _ _ _ _) ?_
      exact xt_ret dX4_renew_36 rfl (lb rfl) (lb rfl) ⟨rfl, rfl, rfl⟩
    | succ d ih =>
      intro k hk f1 hf
      refine il3 dX4_renew_2 ?_
      refine xt_bipush (24) dX4_renew_3 rfl ?_
      refine xt_icmp_ge 21 dX4_renew_5 rfl (fun q => absurd q (nI_ge (a := k) (b := 24) (by omega) (by decide))) (fun _ => ?_)
      refine al0 dX4_renew_8 ?_
      refine g_X4_9 dX4_renew_9 (hp_nt (by omega) h0) ?_
      refine il3 dX4_renew_12 ?_
      refine xt_lconst (0) dX4_renew_13 rfl ?_
      refine xt_last (k) (hp_s _ _ _) (by omega) rfl (by decide) dX4_renew_14 ?_
      refine xt_eq (hp_hp _ _ _ _) ?_
      refine inc3 (nI (k + 1)) dX4_renew_15 (nI_1 _) (by decide) rfl ?_
      refine xt_goto 2 dX4_renew_18 rfl ?_
      exact ih (k + 1) (by omega) _ (by rw [zL_s, ← hf])
  refine xt_iconst (0) dX4_renew_0 rfl ?_
  refine is3 dX4_renew_1 (by decide) rfl ?_
  refine xt_heq (hp_id h h1).symm ?_
  exact lp 24 0 rfl _ rfl
set_option maxHeartbeats 400000 in
set_option maxRecDepth 100000 in
theorem cn_X4_holds {h : ax_H} {n : Nat}  {s : Nat} {th la sz : Int32} (h0 : h s = some (eSh s th la sz)) (i z : Int32) : ax_C yX4_holds cX4_holds 3 (some .boolean) 0 0 0 [.ref s, .int i, .int z] h n (ki (hoV sz i z) h n) := by
  refine ax_C.go RX4 "holds" [some (.ref s), some (.int i), some (.int z)] rfl rfl pn_X4 (lb rfl) rfl (fun l G cy bs => ?_)
  refine il2 dX4_holds_0 ?_
  refine xt_if_lt 22 dX4_holds_1 rfl (fun c1 => ?_) (fun c1 => ?_)
  · refine xt_iconst (0) dX4_holds_22 rfl ?_
    exact xt_zret dX4_holds_23 rfl (Or.inl rfl) (lb rfl) (lb rfl) ⟨by unfold hoV; rw [if_pos c1], rfl, rfl⟩
  · refine il1 dX4_holds_4 ?_
    refine xt_if_lt 22 dX4_holds_5 rfl (fun c5 => ?_) (fun c5 => ?_)
    · refine xt_iconst (0) dX4_holds_22 rfl ?_
      exact xt_zret dX4_holds_23 rfl (Or.inl rfl) (lb rfl) (lb rfl) ⟨by unfold hoV; rw [if_neg c1, if_pos c5], rfl, rfl⟩
    · refine il1 dX4_holds_8 ?_
      refine al0 dX4_holds_9 ?_
      refine g_X4_23 dX4_holds_10 h0 ?_
      refine il2 dX4_holds_13 ?_
      refine xt_isub dX4_holds_14 ?_
      refine xt_icmp_gt 22 dX4_holds_15 rfl (fun c15 => ?_) (fun c15 => ?_)
      · refine xt_iconst (0) dX4_holds_22 rfl ?_
        exact xt_zret dX4_holds_23 rfl (Or.inl rfl) (lb rfl) (lb rfl) ⟨by unfold hoV; rw [if_neg c1, if_neg c5, if_pos c15], rfl, rfl⟩
      · refine xt_iconst (1) dX4_holds_18 rfl ?_
        refine xt_goto 23 dX4_holds_19 rfl ?_
        exact xt_zret dX4_holds_23 rfl (Or.inr rfl) (lb rfl) (lb rfl) ⟨by unfold hoV; rw [if_neg c1, if_neg c5, if_neg c15], rfl, rfl⟩
set_option maxHeartbeats 400000 in
set_option maxRecDepth 100000 in
theorem cn_X4_refusal {h : ax_H} {n : Nat}  {s : Nat} {th la sz : Int32} (h0 : h s = some (eSh s th la sz)) (lane i z : Int32) : ax_C yX4_refusal cX4_refusal 4 (some .int) 1 0 0 [.ref s, .int lane, .int i, .int z] h n (ki (rfV th la sz lane i z) h n) := by
  refine ax_C.go RX4 "refusal" [some (.ref s), some (.int lane), some (.int i), some (.int z)] rfl rfl pn_X4 (lb rfl) rfl (fun l G cy bs => ?_)
  refine al0 dX4_refusal_0 ?_
  refine g_X4_15 dX4_refusal_1 h0 ?_
  refine xt_if_ne 10 dX4_refusal_4 rfl (fun c4 => ?_) (fun c4 => ?_)
  · refine al0 dX4_refusal_10 ?_
    refine g_X4_19 dX4_refusal_11 h0 ?_
    refine il1 dX4_refusal_14 ?_
    refine xt_icmp_eq 21 dX4_refusal_15 rfl (fun c15 => ?_) (fun c15 => ?_)
    · refine al0 dX4_refusal_21 ?_
      refine il2 dX4_refusal_22 ?_
      refine il3 dX4_refusal_23 ?_
      refine s_X4_28 dX4_refusal_24 (cn_X4_holds h0 _ _) h0 ⟨lb rfl, lb rfl, lb rfl, lb rfl⟩ ?_
      apply xj_if_eq 34 dX4_refusal_27 rfl
      · intro k27
        refine ⟨fun c27 => ?_, fun c27 => ?_⟩
        · refine k_X4_32 dX4_refusal_34 ?_
          exact xt_it1 k27 c27
        · refine xt_iconst (0) dX4_refusal_30 rfl ?_
          refine xt_goto 36 dX4_refusal_31 rfl ?_
          exact xt_it2 k27 c27
      · skip
        exact xt_iret dX4_refusal_36 rfl (lb rfl) (lb rfl) ⟨by unfold rfV; rw [if_neg c4, if_pos c15], rfl, rfl⟩
    · refine k_X4_27 dX4_refusal_18 ?_
      exact xt_iret dX4_refusal_20 rfl (lb rfl) (lb rfl) ⟨by unfold rfV; rw [if_neg c4, if_neg c15], rfl, rfl⟩
  · refine k_X4_26 dX4_refusal_7 ?_
    exact xt_iret dX4_refusal_9 rfl (lb rfl) (lb rfl) ⟨by unfold rfV; rw [if_pos c4], rfl, rfl⟩
set_option maxHeartbeats 400000 in
set_option maxRecDepth 100000 in
theorem cn_X4_get {h : ax_H} {n : Nat}  {s z : Nat} {th la : Int32} {f : Nat → Int64} (h0 : h s = some (eSh s th la (nI z))) (h1 : h (s + 1) = some (ax_L 24 f)) (i : Nat) (hi : i < z) (hz : z ≤ 24) : ax_C yX4_get cX4_get 2 (some .long) 0 0 0 [.ref s, .int (nI i)] h n (kl (f i) h n) := by
  refine ax_C.go RX4 "get" [some (.ref s), some (.int (nI i))] rfl rfl pn_X4 (lb rfl) rfl (fun l G cy bs => ?_)
  refine il1 dX4_get_0 ?_
  refine xt_if_lt 21 dX4_get_1 rfl (fun q => absurd q (nI_pos (by omega))) (fun _ => ?_)
  refine il1 dX4_get_4 ?_
  refine al0 dX4_get_5 ?_
  refine g_X4_23 dX4_get_6 h0 ?_
  refine xt_icmp_ge 21 dX4_get_9 rfl (fun q => absurd q (nI_ge (by omega) (by omega))) (fun _ => ?_)
  refine al0 dX4_get_12 ?_
  refine g_X4_9 dX4_get_13 h0 ?_
  refine il1 dX4_get_16 ?_
  refine xt_lald (i) h1 (by omega) rfl (by decide) dX4_get_17 ?_
  refine xt_goto 22 dX4_get_18 rfl ?_
  exact xt_lret dX4_get_22 rfl (lb rfl) (lb rfl) ⟨rfl, rfl, rfl⟩
set_option maxHeartbeats 400000 in
set_option maxRecDepth 100000 in
theorem cn_X4_lowestBits0 {h : ax_H} {n : Nat}  {s : Nat} {th sz : Int32} (h0 : h s = some (eSh s th 0 sz)) (v : Int64) : ax_C yX4_lowestBits cX4_lowestBits 3 (some .long) 0 0 0 [.ref s, .long v] h n (kl (lowV 0 v) h n) := by
  refine ax_C.go RX4 "lowestBits" [some (.ref s), some (.long v), none] rfl rfl pn_X4 (lb rfl) rfl (fun l G cy bs => ?_)
  refine al0 dX4_lowestBits_0 ?_
  refine g_X4_19 dX4_lowestBits_1 h0 ?_
  refine xt_tableIn (off := 28) 32 dX4_lowestBits_4 (by decide) (by decide) (by decide) rfl ?_
  refine ll1 dX4_lowestBits_32 ?_
  refine xt_l2i dX4_lowestBits_33 ?_
  refine xt_i2b dX4_lowestBits_34 ?_
  refine xt_i2l dX4_lowestBits_35 ?_
  exact xt_lret dX4_lowestBits_36 rfl (lb rfl) (lb rfl) ⟨rfl, rfl, rfl⟩
set_option maxHeartbeats 400000 in
set_option maxRecDepth 100000 in
theorem cn_X4_lowestBits1 {h : ax_H} {n : Nat}  {s : Nat} {th sz : Int32} (h0 : h s = some (eSh s th 1 sz)) (v : Int64) : ax_C yX4_lowestBits cX4_lowestBits 3 (some .long) 0 0 0 [.ref s, .long v] h n (kl (lowV 1 v) h n) := by
  refine ax_C.go RX4 "lowestBits" [some (.ref s), some (.long v), none] rfl rfl pn_X4 (lb rfl) rfl (fun l G cy bs => ?_)
  refine al0 dX4_lowestBits_0 ?_
  refine g_X4_19 dX4_lowestBits_1 h0 ?_
  refine xt_tableIn (off := 33) 37 dX4_lowestBits_4 (by decide) (by decide) (by decide) rfl ?_
  refine ll1 dX4_lowestBits_37 ?_
  refine xt_l2i dX4_lowestBits_38 ?_
  refine xt_i2s dX4_lowestBits_39 ?_
  refine xt_i2l dX4_lowestBits_40 ?_
  exact xt_lret dX4_lowestBits_41 rfl (lb rfl) (lb rfl) ⟨rfl, rfl, rfl⟩
set_option maxHeartbeats 400000 in
set_option maxRecDepth 100000 in
theorem cn_X4_lowestBits2 {h : ax_H} {n : Nat}  {s : Nat} {th sz : Int32} (h0 : h s = some (eSh s th 2 sz)) (v : Int64) : ax_C yX4_lowestBits cX4_lowestBits 3 (some .long) 0 0 0 [.ref s, .long v] h n (kl (lowV 2 v) h n) := by
  refine ax_C.go RX4 "lowestBits" [some (.ref s), some (.long v), none] rfl rfl pn_X4 (lb rfl) rfl (fun l G cy bs => ?_)
  refine al0 dX4_lowestBits_0 ?_
  refine g_X4_19 dX4_lowestBits_1 h0 ?_
  refine xt_tableIn (off := 38) 42 dX4_lowestBits_4 (by decide) (by decide) (by decide) rfl ?_
  refine ll1 dX4_lowestBits_42 ?_
  refine xt_l2i dX4_lowestBits_43 ?_
  refine xt_i2l dX4_lowestBits_44 ?_
  exact xt_lret dX4_lowestBits_45 rfl (lb rfl) (lb rfl) ⟨rfl, rfl, rfl⟩
set_option maxHeartbeats 400000 in
set_option maxRecDepth 100000 in
theorem cn_X4_lowestBits3 {h : ax_H} {n : Nat}  {s : Nat} {th la sz : Int32} (h0 : h s = some (eSh s th la sz)) (v : Int64) (hx : la.toInt < 0 ∨ 2 < la.toInt) : ax_C yX4_lowestBits cX4_lowestBits 3 (some .long) 0 0 0 [.ref s, .long v] h n (kl v h n) := by
  refine ax_C.go RX4 "lowestBits" [some (.ref s), some (.long v), none] rfl rfl pn_X4 (lb rfl) rfl (fun l G cy bs => ?_)
  refine al0 dX4_lowestBits_0 ?_
  refine g_X4_19 dX4_lowestBits_1 h0 ?_
  refine xt_tableOut 46 dX4_lowestBits_4 hx rfl ?_
  refine ll1 dX4_lowestBits_46 ?_
  exact xt_lret dX4_lowestBits_47 rfl (lb rfl) (lb rfl) ⟨rfl, rfl, rfl⟩
theorem cn_X4_lowestBits {h : ax_H} {n : Nat} {s : Nat} {th la sz : Int32} (h0 : h s = some (eSh s th la sz)) (v : Int64) : ax_C yX4_lowestBits cX4_lowestBits 3 (some .long) 0 0 0 [.ref s, .long v] h n (kl (lowV la v) h n) := by
  by_cases e0 : la = 0
  · subst e0; exact cn_X4_lowestBits0 h0 v
  · by_cases e1 : la = 1
    · subst e1; exact cn_X4_lowestBits1 h0 v
    · by_cases e2 : la = 2
      · subst e2; exact cn_X4_lowestBits2 h0 v
      · have : lowV la v = v := by unfold lowV; rw [if_neg e0, if_neg e1, if_neg e2]
        rw [this]
        refine cn_X4_lowestBits3 h0 v ?_
        rw [fb_eq, ti_0] at e0; rw [fb_eq, ti_1] at e1; rw [fb_eq, ti_2] at e2
        omega
set_option maxHeartbeats 400000 in
set_option maxRecDepth 100000 in
theorem cn_X4_put {h : ax_H} {n : Nat}  {s z : Nat} {th la : Int32} {f : Nat → Int64} (h0 : h s = some (eSh s th la (nI z))) (h1 : h (s + 1) = some (ax_L 24 f)) (i : Nat) (hi : i < z) (hz : z ≤ 24) (v : Int64) : ax_C yX4_put cX4_put 4 none 1 0 0 [.ref s, .int (nI i), .long v] h n (kv (hp h (s + 1) (ax_L 24 (vp_updL f i (lowV la v)))) n) := by
  refine ax_C.go RX4 "put" [some (.ref s), some (.int (nI i)), some (.long v), none] rfl rfl pn_X4 (lb rfl) rfl (fun l G cy bs => ?_)
  refine il1 dX4_put_0 ?_
  refine xt_if_lt 23 dX4_put_1 rfl (fun q => absurd q (nI_pos (by omega))) (fun _ => ?_)
  refine il1 dX4_put_4 ?_
  refine al0 dX4_put_5 ?_
  refine g_X4_23 dX4_put_6 h0 ?_
  refine xt_icmp_ge 23 dX4_put_9 rfl (fun q => absurd q (nI_ge (by omega) (by omega))) (fun _ => ?_)
  refine al0 dX4_put_12 ?_
  refine g_X4_9 dX4_put_13 h0 ?_
  refine il1 dX4_put_16 ?_
  refine al0 dX4_put_17 ?_
  refine ll2 dX4_put_18 ?_
  refine s_X4_33 dX4_put_19 (cn_X4_lowestBits h0 _) h0 ⟨lb rfl, lb rfl, lb rfl, lb rfl⟩ ?_
  refine xt_last (i) h1 (by omega) rfl (by decide) dX4_put_22 ?_
  exact xt_ret dX4_put_23 rfl (lb rfl) (lb rfl) ⟨rfl, rfl, rfl⟩
/-! fractions of the class -/
abbrev eFr (a b : Int32) : ax_E := .inr (0, [.int a, .int b])
/-- the greatest common divisor, in so many rounds at most -/
def cdV : Nat → Int32 → Int32 → Int32
  | 0, g, _ => g
  | k + 1, g, l => if l = 0 then g else cdV k l (g - g / l * l)
set_option maxHeartbeats 400000 in
set_option maxRecDepth 100000 in
theorem cn_X0_raise {h : ax_H} {n : Nat}  {p : Nat} {a b : Int32} (h0 : h p = some (eFr a b)) (x y : Int32) : ax_C yX0_raise cX0_raise 3 none 0 0 0 [.ref p, .int x, .int y] h n (kv (hp h p (eFr (if x * b ≤ a * y then a else x) (if x * b ≤ a * y then b else y))) n) := by
  refine ax_C.go RX0 "raise" [some (.ref p), some (.int x), some (.int y)] rfl rfl pn_X0 (lb rfl) rfl (fun l G cy bs => ?_)
  refine il1 dX0_raise_0 ?_
  refine al0 dX0_raise_1 ?_
  refine g_X0_13 dX0_raise_2 h0 ?_
  refine xt_imul dX0_raise_5 ?_
  refine al0 dX0_raise_6 ?_
  refine g_X0_7 dX0_raise_7 h0 ?_
  refine il2 dX0_raise_10 ?_
  refine xt_imul dX0_raise_11 ?_
  refine xt_icmp_le 25 dX0_raise_12 rfl (fun c12 => ?_) (fun c12 => ?_)
  · exact xt_ret dX0_raise_25 rfl (lb rfl) (lb rfl) ⟨rfl, by rw [if_pos c12, if_pos c12]; exact (hp_id h h0).symm, rfl⟩
  · refine al0 dX0_raise_15 ?_
    refine il1 dX0_raise_16 ?_
    refine p_X0_7 dX0_raise_17 h0 ?_
    refine al0 dX0_raise_20 ?_
    refine il2 dX0_raise_21 ?_
    refine p_X0_13 dX0_raise_22 (hp_s _ _ _) ?_
    refine xt_eq (hp_hp _ _ _ _) ?_
    exact xt_ret dX0_raise_25 rfl (lb rfl) (lb rfl) ⟨rfl, by rw [if_neg c12, if_neg c12], rfl⟩
set_option maxHeartbeats 400000 in
set_option maxRecDepth 100000 in
theorem cn_X0_commonDivisor {h : ax_H} {n : Nat}  {p : Nat} {a b : Int32} (h0 : h p = some (eFr a b)) : ax_C yX0_commonDivisor cX0_commonDivisor 5 (some .int) 0 0 0 [.ref p] h n (ki (cdV 64 b a) h n) := by
  refine ax_C.go RX0 "commonDivisor" [some (.ref p), none, none, none, none] rfl rfl pn_X0 (lb rfl) rfl (fun l G cy bs => ?_)
  have lp : ∀ (d k : Nat), k + d = 64 → ∀ (g l1 : Int32) (x : Option Value), ax_okst [some (.ref p), some (.int g), some (.int l1), some (.int (nI k)), x] 4 = true → cdV d g l1 = cdV 64 b a → ax_T l G cy bs (ax_rm 0 0 0) RX0 "commonDivisor" cX0_commonDivisor 5 (some .int) (ki (cdV 64 b a) h n) 0 0 12 [some (.ref p), some (.int g), some (.int l1), some (.int (nI k)), x] [] h n 0 0 := by
    intro d
    induction d with
    | zero =>
      intro k hk g l1 x ho he
      obtain rfl : k = 64 := by omega
      refine il3 dX0_commonDivisor_12 ?_
      refine xt_bipush (64) dX0_commonDivisor_13 rfl ?_
      refine xt_icmp_ge 38 dX0_commonDivisor_15 rfl (fun _ => ?_) (fun q => absurd (by decide) q)
      refine il1 dX0_commonDivisor_38 ?_
      exact xt_iret dX0_commonDivisor_39 rfl (lb rfl) (lb rfl) ⟨by rw [← he]; rfl, rfl, rfl⟩
    | succ d ih =>
      intro k hk g l1 x ho he
      refine il3 dX0_commonDivisor_12 ?_
      refine xt_bipush (64) dX0_commonDivisor_13 rfl ?_
      refine xt_icmp_ge 38 dX0_commonDivisor_15 rfl (fun q => absurd q (nI_ge (a := k) (b := 64) (by omega) (by decide))) (fun _ => ?_)
      refine il2 dX0_commonDivisor_18 ?_
      refine xt_if_eq 38 dX0_commonDivisor_19 rfl (fun c19 => ?_) (fun c19 => ?_)
      · refine il1 dX0_commonDivisor_38 ?_
        exact xt_iret dX0_commonDivisor_39 rfl (lb rfl) (lb rfl) ⟨by rw [← he, cdV, if_pos c19], rfl, rfl⟩
      · refine il1 dX0_commonDivisor_22 ?_
        refine il2 dX0_commonDivisor_23 ?_
        refine xt_irem dX0_commonDivisor_24 c19 ?_
        refine is4 dX0_commonDivisor_25 (by decide) rfl ?_
        refine il2 dX0_commonDivisor_27 ?_
        refine is1 dX0_commonDivisor_28 (by decide) rfl ?_
        refine il4 dX0_commonDivisor_29 ?_
        refine is2 dX0_commonDivisor_31 (by decide) rfl ?_
        refine inc3 (nI (k + 1)) dX0_commonDivisor_32 (nI_1 _) (by decide) rfl ?_
        refine xt_goto 12 dX0_commonDivisor_35 rfl ?_
        exact ih (k + 1) (by omega) _ _ _ rfl (by rw [← he, cdV, if_neg c19])
  refine al0 dX0_commonDivisor_0 ?_
  refine g_X0_13 dX0_commonDivisor_1 h0 ?_
  refine is1 dX0_commonDivisor_4 (by decide) rfl ?_
  refine al0 dX0_commonDivisor_5 ?_
  refine g_X0_7 dX0_commonDivisor_6 h0 ?_
  refine is2 dX0_commonDivisor_9 (by decide) rfl ?_
  refine xt_iconst (0) dX0_commonDivisor_10 rfl ?_
  refine is3 dX0_commonDivisor_11 (by decide) rfl ?_
  exact lp 64 0 rfl _ _ _ rfl rfl
set_option maxHeartbeats 400000 in
set_option maxRecDepth 100000 in
theorem cn_X0_lowest {h : ax_H} {n : Nat}  {p : Nat} {a b : Int32} (h0 : h p = some (eFr a b)) (x : Int32) (hc : ¬ cdV 64 b a = 0) : ax_C yX0_lowest cX0_lowest 3 (some .int) 1 0 0 [.ref p, .int x] h n (ki ((if x = 0 then a else b) / cdV 64 b a) h n) := by
  refine ax_C.go RX0 "lowest" [some (.ref p), some (.int x), none] rfl rfl pn_X0 (lb rfl) rfl (fun l G cy bs => ?_)
  refine al0 dX0_lowest_0 ?_
  refine s_X0_16 dX0_lowest_1 (cn_X0_commonDivisor h0) h0 ⟨lb rfl, lb rfl, lb rfl, lb rfl⟩ ?_
  refine is2 dX0_lowest_4 (by decide) rfl ?_
  refine il2 dX0_lowest_5 ?_
  refine xt_if_ne 11 dX0_lowest_6 rfl (fun _ => ?_) (fun q => absurd q hc)
  refine il1 dX0_lowest_11 ?_
  apply xj_if_ne 22 dX0_lowest_12 rfl
  · intro k12
    refine ⟨fun c12 => ?_, fun c12 => ?_⟩
    · refine al0 dX0_lowest_22 ?_
      refine g_X0_13 dX0_lowest_23 h0 ?_
      exact xt_in1 k12 c12
    · refine al0 dX0_lowest_15 ?_
      refine g_X0_7 dX0_lowest_16 h0 ?_
      refine xt_goto 26 dX0_lowest_19 rfl ?_
      exact xt_in2 k12 c12
  · skip
    refine il2 dX0_lowest_26 ?_
    refine xt_idiv dX0_lowest_27 hc ?_
    exact xt_iret dX0_lowest_28 rfl (lb rfl) (lb rfl) ⟨rfl, rfl, rfl⟩
