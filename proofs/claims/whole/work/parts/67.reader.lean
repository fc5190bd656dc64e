theorem nle {x y : Int32} (h : x < y) : ¬ y ≤ x := by rw [fb_lt] at h; rw [fb_le]; omega
set_option maxHeartbeats 400000 in
set_option maxRecDepth 100000 in
theorem cn_X3_atEnd {h : ax_H} {n : Nat} {t : Nat} {fo : Int32} {g tp : Nat → Int32} {a : Nat} (hT : h 120 = some (ax_B 140 g)) (hg : ∀ j, j < t → g j = tp j) (ht : t ≤ 140) (ha : a ≤ t) : ax_C yX3_atEnd cX3_atEnd 1 (some .boolean) 0 0 0 [.ref 119] (hp h 119 (eRd (nI t) (fo) (nI (a)))) n (ki (if t ≤ sk tp t a then 1 else 0) (hp h 119 (eRd (nI t) (fo) (nI (sk tp t a)))) n) := by
  refine ax_C.go RX3 "atEnd" [some (.ref 119)] rfl rfl pn_X3 (lb rfl) rfl (fun l G cy bs => ?_)
  have lp : ∀ (d c : Nat), c + d = t → sk tp t a = sk tp t c → ax_T l G cy bs (ax_rm 0 0 0) RX3 "atEnd" cX3_atEnd 1 (some .boolean) (ki (if t ≤ sk tp t a then 1 else 0) (hp h 119 (eRd (nI t) (fo) (nI (sk tp t a)))) n) 0 0 0 [some (.ref 119)] [] (hp h 119 (eRd (nI t) (fo) (nI (c)))) n 0 0 := by
    intro d
    induction d with
    | zero =>
      intro c hc hs
      obtain rfl : c = t := by omega
      rw [sk_e (Nat.le_refl _)] at hs
      refine al0 dX3_atEnd_0 ?_
      refine g_X3_32 dX3_atEnd_1 (hp_s _ _ _) ?_
      refine al0 dX3_atEnd_4 ?_
      refine g_X3_15 dX3_atEnd_5 (hp_s _ _ _) ?_
      refine xt_icmp_ge 38 dX3_atEnd_8 rfl (fun _ => ?_) (fun q => absurd (nI_le (by omega) (by omega)) q)
      refine al0 dX3_atEnd_38 ?_
      refine g_X3_32 dX3_atEnd_39 (hp_s _ _ _) ?_
      refine al0 dX3_atEnd_42 ?_
      refine g_X3_15 dX3_atEnd_43 (hp_s _ _ _) ?_
      refine xt_icmp_lt 53 dX3_atEnd_46 rfl (fun q => absurd q (nI_nlt (by omega) (by omega))) (fun _ => ?_)
      refine xt_iconst (1) dX3_atEnd_49 rfl ?_
      refine xt_goto 54 dX3_atEnd_50 rfl ?_
      exact xt_zret dX3_atEnd_54 rfl (Or.inr rfl) (lb rfl) (lb rfl) ⟨by rw [hs, if_pos (Nat.le_refl _)], by rw [hs], rfl⟩
    | succ d ih =>
      intro c hc hs
      refine al0 dX3_atEnd_0 ?_
      refine g_X3_32 dX3_atEnd_1 (hp_s _ _ _) ?_
      refine al0 dX3_atEnd_4 ?_
      refine g_X3_15 dX3_atEnd_5 (hp_s _ _ _) ?_
      refine xt_icmp_ge 38 dX3_atEnd_8 rfl (fun q => absurd q (nI_ge (by omega) (by omega))) (fun _ => ?_)
      refine al0 dX3_atEnd_11 ?_
      refine g_X3_9 dX3_atEnd_12 (hp_s _ _ _) ?_
      refine al0 dX3_atEnd_15 ?_
      refine g_X3_32 dX3_atEnd_16 (hp_s _ _ _) ?_
      refine xt_cald (c) (hp_nt (by omega) hT) (by omega) rfl (by decide) dX3_atEnd_19 ?_
      refine xt_eqv (tp (c)) (hg _ (by omega)) ?_
      refine xt_bipush (32) dX3_atEnd_20 rfl ?_
      refine xt_icmp_ne 38 dX3_atEnd_22 rfl (fun c22 => ?_) (fun c22 => ?_)
      · rw [sk_n c22] at hs
        refine al0 dX3_atEnd_38 ?_
        refine g_X3_32 dX3_atEnd_39 (hp_s _ _ _) ?_
        refine al0 dX3_atEnd_42 ?_
        refine g_X3_15 dX3_atEnd_43 (hp_s _ _ _) ?_
        refine xt_icmp_lt 53 dX3_atEnd_46 rfl (fun _ => ?_) (fun q => absurd (nI_lt (by omega) (by omega)) q)
        refine xt_iconst (0) dX3_atEnd_53 rfl ?_
        exact xt_zret dX3_atEnd_54 rfl (Or.inl rfl) (lb rfl) (lb rfl) ⟨by rw [hs, if_neg (by omega)], by rw [hs], rfl⟩
      · have hs2 := hs.trans (sk_s (by omega) c22)
        refine al0 dX3_atEnd_25 ?_
        refine xt_dup dX3_atEnd_26 rfl ?_
        refine g_X3_32 dX3_atEnd_27 (hp_s _ _ _) ?_
        refine xt_iconst (1) dX3_atEnd_30 rfl ?_
        refine xt_iadd dX3_atEnd_31 ?_
        refine xt_eqv (nI (c + 1)) (ne_add (a := c) (b := 1) rfl rfl) ?_
        refine p_X3_32 dX3_atEnd_32 (hp_s _ _ _) ?_
        refine xt_eq (hp_hp _ _ _ _) ?_
        refine xt_goto 0 dX3_atEnd_35 rfl ?_
        exact ih (c + 1) (by omega) hs2
  exact lp (t - a) a (by omega) rfl
set_option maxHeartbeats 400000 in
set_option maxRecDepth 100000 in
theorem cn_X3_readSign_1 {h : ax_H} {n : Nat} {t : Nat} {fo : Int32} {g tp : Nat → Int32} {a : Nat} (hT : h 120 = some (ax_B 140 g)) (hg : ∀ j, j < t → g j = tp j) (ht : t ≤ 140) (ha : a ≤ t) (x : Int32) (hc : (sk tp t a < t ∧ tp (sk tp t a) = x)) : ax_C yX3_readSign cX3_readSign 2 (some .boolean) 1 0 0 [.ref 119, .int x] (hp h 119 (eRd (nI t) (fo) (nI (a)))) n (ki 1 (hp h 119 (eRd (nI t) (fo) (nI (sk tp t a + 1)))) n) := by
  refine ax_C.go RX3 "readSign" [some (.ref 119), some (.int x)] rfl rfl pn_X3 (lb rfl) rfl (fun l G cy bs => ?_)
  have hs := sk_le (tp := tp) ha
  have hl := hc.1
  refine al0 dX3_readSign_0 ?_
  refine s_X3_36 dX3_readSign_1 (cn_X3_atEnd hT hg ht (a := a) ha) (hp_s _ _ _) ⟨lb rfl, lb rfl, lb rfl, lb rfl⟩ ?_
  refine xt_eqv 0 (if_neg (by omega)) ?_
  refine xt_if_ne 20 dX3_readSign_4 rfl (fun q => absurd (by decide) q) (fun _ => ?_)
  refine al0 dX3_readSign_7 ?_
  refine g_X3_9 dX3_readSign_8 (hp_s _ _ _) ?_
  refine al0 dX3_readSign_11 ?_
  refine g_X3_32 dX3_readSign_12 (hp_s _ _ _) ?_
  refine xt_cald (sk tp t (a)) (hp_nt (by omega) hT) (by omega) rfl (by decide) dX3_readSign_15 ?_
  refine xt_eqv (tp (sk tp t a)) (hg _ (by omega)) ?_
  refine il1 dX3_readSign_16 ?_
  refine xt_icmp_eq 22 dX3_readSign_17 rfl (fun _ => ?_) (fun q => absurd hc.2 q)
  refine al0 dX3_readSign_22 ?_
  refine xt_dup dX3_readSign_23 rfl ?_
  refine g_X3_32 dX3_readSign_24 (hp_s _ _ _) ?_
  refine xt_iconst (1) dX3_readSign_27 rfl ?_
  refine xt_iadd dX3_readSign_28 ?_
  refine xt_eqv (nI (sk tp t (a) + 1)) (ne_add (a := sk tp t (a)) (b := 1) rfl rfl) ?_
  refine p_X3_32 dX3_readSign_29 (hp_s _ _ _) ?_
  refine xt_eq (hp_hp _ _ _ _) ?_
  refine xt_iconst (1) dX3_readSign_32 rfl ?_
  exact xt_zret dX3_readSign_33 rfl (Or.inr rfl) (lb rfl) (lb rfl) ⟨rfl, rfl, rfl⟩
set_option maxHeartbeats 400000 in
set_option maxRecDepth 100000 in
theorem cn_X3_readSign_0 {h : ax_H} {n : Nat} {t : Nat} {fo : Int32} {g tp : Nat → Int32} {a : Nat} (hT : h 120 = some (ax_B 140 g)) (hg : ∀ j, j < t → g j = tp j) (ht : t ≤ 140) (ha : a ≤ t) (x : Int32) (hc : ¬ (sk tp t a < t ∧ tp (sk tp t a) = x)) : ax_C yX3_readSign cX3_readSign 2 (some .boolean) 1 0 0 [.ref 119, .int x] (hp h 119 (eRd (nI t) (fo) (nI (a)))) n (ki 0 (hp h 119 (eRd (nI t) (fo) (nI (sk tp t a)))) n) := by
  refine ax_C.go RX3 "readSign" [some (.ref 119), some (.int x)] rfl rfl pn_X3 (lb rfl) rfl (fun l G cy bs => ?_)
  have hs := sk_le (tp := tp) ha
  by_cases he : t ≤ sk tp t a
  · refine al0 dX3_readSign_0 ?_
    refine s_X3_36 dX3_readSign_1 (cn_X3_atEnd hT hg ht (a := a) ha) (hp_s _ _ _) ⟨lb rfl, lb rfl, lb rfl, lb rfl⟩ ?_
    refine xt_eqv 1 (if_pos he) ?_
    refine xt_if_ne 20 dX3_readSign_4 rfl (fun _ => ?_) (fun q => absurd q (by decide))
    refine xt_iconst (0) dX3_readSign_20 rfl ?_
    exact xt_zret dX3_readSign_21 rfl (Or.inl rfl) (lb rfl) (lb rfl) ⟨rfl, rfl, rfl⟩
  · refine al0 dX3_readSign_0 ?_
    refine s_X3_36 dX3_readSign_1 (cn_X3_atEnd hT hg ht (a := a) ha) (hp_s _ _ _) ⟨lb rfl, lb rfl, lb rfl, lb rfl⟩ ?_
    refine xt_eqv 0 (if_neg he) ?_
    refine xt_if_ne 20 dX3_readSign_4 rfl (fun q => absurd (by decide) q) (fun _ => ?_)
    refine al0 dX3_readSign_7 ?_
    refine g_X3_9 dX3_readSign_8 (hp_s _ _ _) ?_
    refine al0 dX3_readSign_11 ?_
    refine g_X3_32 dX3_readSign_12 (hp_s _ _ _) ?_
    refine xt_cald (sk tp t (a)) (hp_nt (by omega) hT) (by omega) rfl (by decide) dX3_readSign_15 ?_
    refine xt_eqv (tp (sk tp t a)) (hg _ (by omega)) ?_
    refine il1 dX3_readSign_16 ?_
    refine xt_icmp_eq 22 dX3_readSign_17 rfl (fun q => absurd q (fun q => hc ⟨by omega, q⟩)) (fun _ => ?_)
    refine xt_iconst (0) dX3_readSign_20 rfl ?_
    exact xt_zret dX3_readSign_21 rfl (Or.inl rfl) (lb rfl) (lb rfl) ⟨rfl, rfl, rfl⟩
set_option maxHeartbeats 400000 in
set_option maxRecDepth 100000 in
theorem cn_X3_digitIsNext {h : ax_H} {n : Nat} {t : Nat} {fo : Int32} {g tp : Nat → Int32} {a : Nat} (hT : h 120 = some (ax_B 140 g)) (hg : ∀ j, j < t → g j = tp j) (ht : t ≤ 140) (ha : a ≤ t) : ax_C yX3_digitIsNext cX3_digitIsNext 1 (some .boolean) 0 0 0 [.ref 119] (hp h 119 (eRd (nI t) (fo) (nI (a)))) n (ki (if dgA tp t a then 1 else 0) (hp h 119 (eRd (nI t) (fo) (nI (a)))) n) := by
  refine ax_C.go RX3 "digitIsNext" [some (.ref 119)] rfl rfl pn_X3 (lb rfl) rfl (fun l G cy bs => ?_)
  refine al0 dX3_digitIsNext_0 ?_
  refine g_X3_32 dX3_digitIsNext_1 (hp_s _ _ _) ?_
  refine al0 dX3_digitIsNext_4 ?_
  refine g_X3_15 dX3_digitIsNext_5 (hp_s _ _ _) ?_
  refine xt_icmp_ge 43 dX3_digitIsNext_8 rfl (fun c8 => ?_) (fun c8 => ?_)
  · refine xt_iconst (0) dX3_digitIsNext_43 rfl ?_
    exact xt_zret dX3_digitIsNext_44 rfl (Or.inl rfl) (lb rfl) (lb rfl) ⟨by rw [if_neg (fun q => absurd c8 (nI_ge q.1 (by omega)))], rfl, rfl⟩
  · have hl := nI_lt_of c8 (by omega)
    refine al0 dX3_digitIsNext_11 ?_
    refine g_X3_9 dX3_digitIsNext_12 (hp_s _ _ _) ?_
    refine al0 dX3_digitIsNext_15 ?_
    refine g_X3_32 dX3_digitIsNext_16 (hp_s _ _ _) ?_
    refine xt_cald (a) (hp_nt (by omega) hT) (by omega) rfl (by decide) dX3_digitIsNext_19 ?_
    refine xt_eqv (tp (a)) (hg _ (by omega)) ?_
    refine xt_bipush (48) dX3_digitIsNext_20 rfl ?_
    refine xt_icmp_lt 43 dX3_digitIsNext_22 rfl (fun c22 => ?_) (fun c22 => ?_)
    · refine xt_iconst (0) dX3_digitIsNext_43 rfl ?_
      exact xt_zret dX3_digitIsNext_44 rfl (Or.inl rfl) (lb rfl) (lb rfl) ⟨by rw [if_neg (fun q => nle c22 q.2.1)], rfl, rfl⟩
    · refine al0 dX3_digitIsNext_25 ?_
      refine g_X3_9 dX3_digitIsNext_26 (hp_s _ _ _) ?_
      refine al0 dX3_digitIsNext_29 ?_
      refine g_X3_32 dX3_digitIsNext_30 (hp_s _ _ _) ?_
      refine xt_cald (a) (hp_nt (by omega) hT) (by omega) rfl (by decide) dX3_digitIsNext_33 ?_
      refine xt_eqv (tp (a)) (hg _ (by omega)) ?_
      refine xt_bipush (57) dX3_digitIsNext_34 rfl ?_
      refine xt_icmp_gt 43 dX3_digitIsNext_36 rfl (fun c36 => ?_) (fun c36 => ?_)
      · refine xt_iconst (0) dX3_digitIsNext_43 rfl ?_
        exact xt_zret dX3_digitIsNext_44 rfl (Or.inl rfl) (lb rfl) (lb rfl) ⟨by rw [if_neg (fun q => nle c36 q.2.2)], rfl, rfl⟩
      · refine xt_iconst (1) dX3_digitIsNext_39 rfl ?_
        refine xt_goto 44 dX3_digitIsNext_40 rfl ?_
        exact xt_zret dX3_digitIsNext_44 rfl (Or.inr rfl) (lb rfl) (lb rfl) ⟨by rw [if_pos ⟨hl, ngt c22, ngt c36⟩], rfl, rfl⟩
set_option maxHeartbeats 400000 in
set_option maxRecDepth 100000 in
theorem cn_X3_readNumber {h : ax_H} {n : Nat} {t : Nat} {fo : Int32} {g tp : Nat → Int32} {a : Nat} {f : Nat → Int32} (hT : h 120 = some (ax_B 140 g)) (hg : ∀ j, j < t → g j = tp j) (ht : t ≤ 140) (ha : a ≤ t) (h122 : h 122 = some (ax_I 3 f)) (k : Nat) (hk : k < 3) (res : Option Int32 × Nat) (hres : rNum tp t a = res) : ax_C yX3_readNumber cX3_readNumber 5 (some .boolean) 2 0 0 [.ref 119, .int (nI k)] (hp h 119 (eRd (nI t) (fo) (nI (a)))) n (kE (if res.1.isSome then 1 else 0) (fun h2 => ∃ f2, h2 = (hp (hp h 122 (ax_I 3 f2)) 119 (eRd (nI t) (fo) (nI (res.2)))) ∧ ∀ v, res.1 = some v → f2 = upd f k v) n) := by
  refine ax_C.go RX3 "readNumber" [some (.ref 119), some (.int (nI k)), none, none, none] rfl rfl pn_X3 (lb rfl) rfl (fun l G cy bs => ?_)
  have go : ∀ (le : Int32) (b : Nat), b ≤ t → rN2 tp t le b = res → ax_T l G cy bs (ax_rm 2 0 0) RX3 "readNumber" cX3_readNumber 5 (some .boolean) (kE (if res.1.isSome then 1 else 0) (fun h2 => ∃ f2, h2 = (hp (hp h 122 (ax_I 3 f2)) 119 (eRd (nI t) (fo) (nI (res.2)))) ∧ ∀ v, res.1 = some v → f2 = upd f k v) n) 0 0 7 [some (.ref 119), some (.int (nI k)), some (.int le), none, none] [] (hp h 119 (eRd (nI t) (fo) (nI (b)))) n 0 0 := by
    intro le b hb hres
    have hs := sk_le (tp := tp) hb
    by_cases hd0 : dgA tp t (sk tp t b)
    · have hl0 := hd0.1
      by_cases hd1 : dgA tp t (sk tp t b + 1)
      · have hl1 := hd1.1
        by_cases hd2 : dgA tp t (sk tp t b + 2)
        · obtain rfl := hres.symm.trans (rN2_3 hd0 hd1 hd2)
          refine al0 dX3_readNumber_7 ?_
          refine s_X3_36 dX3_readNumber_8 (cn_X3_atEnd hT hg ht (a := b) hb) (hp_s _ _ _) ⟨lb rfl, lb rfl, lb rfl, lb rfl⟩ ?_
          refine xt_eqv 0 (if_neg (by omega)) ?_
          refine xt_if_ne 21 dX3_readNumber_11 rfl (fun q => absurd (by decide) q) (fun _ => ?_)
          refine al0 dX3_readNumber_14 ?_
          refine s_X3_67 dX3_readNumber_15 (cn_X3_digitIsNext hT hg ht (a := sk tp t b) (by omega)) (hp_s _ _ _) ⟨lb rfl, lb rfl, lb rfl, lb rfl⟩ ?_
          refine xt_eqv 1 (if_pos hd0) ?_
          refine xt_if_ne 23 dX3_readNumber_18 rfl (fun _ => ?_) (fun q => absurd q (by decide))
          refine xt_iconst (0) dX3_readNumber_23 rfl ?_
          refine is3 dX3_readNumber_24 (by decide) rfl ?_
          refine xt_iconst (0) dX3_readNumber_25 rfl ?_
          refine is4 dX3_readNumber_26 (by decide) rfl ?_
          refine il4 dX3_readNumber_28 ?_
          refine xt_iconst (2) dX3_readNumber_30 rfl ?_
          refine xt_icmp_ge 75 dX3_readNumber_31 rfl (fun q => absurd q (by decide)) (fun _ => ?_)
          refine al0 dX3_readNumber_34 ?_
          refine s_X3_67 dX3_readNumber_35 (cn_X3_digitIsNext hT hg ht (a := sk tp t b) (by omega)) (hp_s _ _ _) ⟨lb rfl, lb rfl, lb rfl, lb rfl⟩ ?_
          refine xt_eqv 1 (if_pos hd0) ?_
          refine xt_if_eq 75 dX3_readNumber_38 rfl (fun q => absurd q (by decide)) (fun _ => ?_)
          refine xt_bipush (10) dX3_readNumber_41 rfl ?_
          refine il3 dX3_readNumber_43 ?_
          refine xt_imul dX3_readNumber_44 ?_
          refine al0 dX3_readNumber_45 ?_
          refine g_X3_9 dX3_readNumber_46 (hp_s _ _ _) ?_
          refine al0 dX3_readNumber_49 ?_
          refine g_X3_32 dX3_readNumber_50 (hp_s _ _ _) ?_
          refine xt_cald (sk tp t (b)) (hp_nt (by omega) hT) (by omega) rfl (by decide) dX3_readNumber_53 ?_
          refine xt_eqv (tp (sk tp t b)) (hg _ (by omega)) ?_
          refine xt_bipush (48) dX3_readNumber_54 rfl ?_
          refine xt_isub dX3_readNumber_56 ?_
          refine xt_iadd dX3_readNumber_57 ?_
          refine xt_eqv (dg1 tp (sk tp t b)) dg1_c ?_
          refine is3 dX3_readNumber_58 (by decide) rfl ?_
          refine al0 dX3_readNumber_59 ?_
          refine xt_dup dX3_readNumber_60 rfl ?_
          refine g_X3_32 dX3_readNumber_61 (hp_s _ _ _) ?_
          refine xt_iconst (1) dX3_readNumber_64 rfl ?_
          refine xt_iadd dX3_readNumber_65 ?_
          refine xt_eqv (nI (sk tp t b + 1)) ((ne_add (a := sk tp t (b)) (b := 1) rfl rfl).trans (congrArg nI (by omega))) ?_
          refine p_X3_32 dX3_readNumber_66 (hp_s _ _ _) ?_
          refine xt_eq (hp_hp _ _ _ _) ?_
          refine inc4 (1) dX3_readNumber_69 rfl (by decide) rfl ?_
          refine xt_goto 28 dX3_readNumber_72 rfl ?_
          refine il4 dX3_readNumber_28 ?_
          refine xt_iconst (2) dX3_readNumber_30 rfl ?_
          refine xt_icmp_ge 75 dX3_readNumber_31 rfl (fun q => absurd q (by decide)) (fun _ => ?_)
          refine al0 dX3_readNumber_34 ?_
          refine s_X3_67 dX3_readNumber_35 (cn_X3_digitIsNext hT hg ht (a := sk tp t b + 1) (by omega)) (hp_s _ _ _) ⟨lb rfl, lb rfl, lb rfl, lb rfl⟩ ?_
          refine xt_eqv 1 (if_pos hd1) ?_
          refine xt_if_eq 75 dX3_readNumber_38 rfl (fun q => absurd q (by decide)) (fun _ => ?_)
          refine xt_bipush (10) dX3_readNumber_41 rfl ?_
          refine il3 dX3_readNumber_43 ?_
          refine xt_imul dX3_readNumber_44 ?_
          refine al0 dX3_readNumber_45 ?_
          refine g_X3_9 dX3_readNumber_46 (hp_s _ _ _) ?_
          refine al0 dX3_readNumber_49 ?_
          refine g_X3_32 dX3_readNumber_50 (hp_s _ _ _) ?_
          refine xt_cald (sk tp t b + 1) (hp_nt (by omega) hT) (by omega) rfl (by decide) dX3_readNumber_53 ?_
          refine xt_eqv (tp (sk tp t b + 1)) (hg _ (by omega)) ?_
          refine xt_bipush (48) dX3_readNumber_54 rfl ?_
          refine xt_isub dX3_readNumber_56 ?_
          refine xt_iadd dX3_readNumber_57 ?_
          refine xt_eqv (dg2 tp (sk tp t b)) dg2_c ?_
          refine is3 dX3_readNumber_58 (by decide) rfl ?_
          refine al0 dX3_readNumber_59 ?_
          refine xt_dup dX3_readNumber_60 rfl ?_
          refine g_X3_32 dX3_readNumber_61 (hp_s _ _ _) ?_
          refine xt_iconst (1) dX3_readNumber_64 rfl ?_
          refine xt_iadd dX3_readNumber_65 ?_
          refine xt_eqv (nI (sk tp t b + 2)) ((ne_add (a := sk tp t b + 1) (b := 1) rfl rfl).trans (congrArg nI (by omega))) ?_
          refine p_X3_32 dX3_readNumber_66 (hp_s _ _ _) ?_
          refine xt_eq (hp_hp _ _ _ _) ?_
          refine inc4 (2) dX3_readNumber_69 rfl (by decide) rfl ?_
          refine xt_goto 28 dX3_readNumber_72 rfl ?_
          refine il4 dX3_readNumber_28 ?_
          refine xt_iconst (2) dX3_readNumber_30 rfl ?_
          refine xt_icmp_ge 75 dX3_readNumber_31 rfl (fun _ => ?_) (fun q => absurd (by decide) q)
          refine al0 dX3_readNumber_75 ?_
          refine s_X3_67 dX3_readNumber_76 (cn_X3_digitIsNext hT hg ht (a := sk tp t b + 2) (by omega)) (hp_s _ _ _) ⟨lb rfl, lb rfl, lb rfl, lb rfl⟩ ?_
          refine xt_eqv 1 (if_pos hd2) ?_
          refine xt_if_eq 84 dX3_readNumber_79 rfl (fun q => absurd q (by decide)) (fun _ => ?_)
          refine xt_iconst (0) dX3_readNumber_82 rfl ?_
          exact xt_zret dX3_readNumber_83 rfl (Or.inl rfl) (lb rfl) (lb rfl) ⟨rfl, ⟨f, by rw [hp_id _ h122], fun v hv => nomatch hv⟩, rfl⟩
        · obtain rfl := hres.symm.trans (rN2_2 hd0 hd1 hd2)
          refine al0 dX3_readNumber_7 ?_
          refine s_X3_36 dX3_readNumber_8 (cn_X3_atEnd hT hg ht (a := b) hb) (hp_s _ _ _) ⟨lb rfl, lb rfl, lb rfl, lb rfl⟩ ?_
          refine xt_eqv 0 (if_neg (by omega)) ?_
          refine xt_if_ne 21 dX3_readNumber_11 rfl (fun q => absurd (by decide) q) (fun _ => ?_)
          refine al0 dX3_readNumber_14 ?_
          refine s_X3_67 dX3_readNumber_15 (cn_X3_digitIsNext hT hg ht (a := sk tp t b) (by omega)) (hp_s _ _ _) ⟨lb rfl, lb rfl, lb rfl, lb rfl⟩ ?_
          refine xt_eqv 1 (if_pos hd0) ?_
          refine xt_if_ne 23 dX3_readNumber_18 rfl (fun _ => ?_) (fun q => absurd q (by decide))
          refine xt_iconst (0) dX3_readNumber_23 rfl ?_
          refine is3 dX3_readNumber_24 (by decide) rfl ?_
          refine xt_iconst (0) dX3_readNumber_25 rfl ?_
          refine is4 dX3_readNumber_26 (by decide) rfl ?_
          refine il4 dX3_readNumber_28 ?_
          refine xt_iconst (2) dX3_readNumber_30 rfl ?_
          refine xt_icmp_ge 75 dX3_readNumber_31 rfl (fun q => absurd q (by decide)) (fun _ => ?_)
          refine al0 dX3_readNumber_34 ?_
          refine s_X3_67 dX3_readNumber_35 (cn_X3_digitIsNext hT hg ht (a := sk tp t b) (by omega)) (hp_s _ _ _) ⟨lb rfl, lb rfl, lb rfl, lb rfl⟩ ?_
          refine xt_eqv 1 (if_pos hd0) ?_
          refine xt_if_eq 75 dX3_readNumber_38 rfl (fun q => absurd q (by decide)) (fun _ => ?_)
          refine xt_bipush (10) dX3_readNumber_41 rfl ?_
          refine il3 dX3_readNumber_43 ?_
          refine xt_imul dX3_readNumber_44 ?_
          refine al0 dX3_readNumber_45 ?_
          refine g_X3_9 dX3_readNumber_46 (hp_s _ _ _) ?_
          refine al0 dX3_readNumber_49 ?_
          refine g_X3_32 dX3_readNumber_50 (hp_s _ _ _) ?_
          refine xt_cald (sk tp t (b)) (hp_nt (by omega) hT) (by omega) rfl (by decide) dX3_readNumber_53 ?_
          refine xt_eqv (tp (sk tp t b)) (hg _ (by omega)) ?_
          refine xt_bipush (48) dX3_readNumber_54 rfl ?_
          refine xt_isub dX3_readNumber_56 ?_
          refine xt_iadd dX3_readNumber_57 ?_
          refine xt_eqv (dg1 tp (sk tp t b)) dg1_c ?_
          refine is3 dX3_readNumber_58 (by decide) rfl ?_
          refine al0 dX3_readNumber_59 ?_
          refine xt_dup dX3_readNumber_60 rfl ?_
          refine g_X3_32 dX3_readNumber_61 (hp_s _ _ _) ?_
          refine xt_iconst (1) dX3_readNumber_64 rfl ?_
          refine xt_iadd dX3_readNumber_65 ?_
          refine xt_eqv (nI (sk tp t b + 1)) ((ne_add (a := sk tp t (b)) (b := 1) rfl rfl).trans (congrArg nI (by omega))) ?_
          refine p_X3_32 dX3_readNumber_66 (hp_s _ _ _) ?_
          refine xt_eq (hp_hp _ _ _ _) ?_
          refine inc4 (1) dX3_readNumber_69 rfl (by decide) rfl ?_
          refine xt_goto 28 dX3_readNumber_72 rfl ?_
          refine il4 dX3_readNumber_28 ?_
          refine xt_iconst (2) dX3_readNumber_30 rfl ?_
          refine xt_icmp_ge 75 dX3_readNumber_31 rfl (fun q => absurd q (by decide)) (fun _ => ?_)
          refine al0 dX3_readNumber_34 ?_
          refine s_X3_67 dX3_readNumber_35 (cn_X3_digitIsNext hT hg ht (a := sk tp t b + 1) (by omega)) (hp_s _ _ _) ⟨lb rfl, lb rfl, lb rfl, lb rfl⟩ ?_
          refine xt_eqv 1 (if_pos hd1) ?_
          refine xt_if_eq 75 dX3_readNumber_38 rfl (fun q => absurd q (by decide)) (fun _ => ?_)
          refine xt_bipush (10) dX3_readNumber_41 rfl ?_
          refine il3 dX3_readNumber_43 ?_
          refine xt_imul dX3_readNumber_44 ?_
          refine al0 dX3_readNumber_45 ?_
          refine g_X3_9 dX3_readNumber_46 (hp_s _ _ _) ?_
          refine al0 dX3_readNumber_49 ?_
          refine g_X3_32 dX3_readNumber_50 (hp_s _ _ _) ?_
          refine xt_cald (sk tp t b + 1) (hp_nt (by omega) hT) (by omega) rfl (by decide) dX3_readNumber_53 ?_
          refine xt_eqv (tp (sk tp t b + 1)) (hg _ (by omega)) ?_
          refine xt_bipush (48) dX3_readNumber_54 rfl ?_
          refine xt_isub dX3_readNumber_56 ?_
          refine xt_iadd dX3_readNumber_57 ?_
          refine xt_eqv (dg2 tp (sk tp t b)) dg2_c ?_
          refine is3 dX3_readNumber_58 (by decide) rfl ?_
          refine al0 dX3_readNumber_59 ?_
          refine xt_dup dX3_readNumber_60 rfl ?_
          refine g_X3_32 dX3_readNumber_61 (hp_s _ _ _) ?_
          refine xt_iconst (1) dX3_readNumber_64 rfl ?_
          refine xt_iadd dX3_readNumber_65 ?_
          refine xt_eqv (nI (sk tp t b + 2)) ((ne_add (a := sk tp t b + 1) (b := 1) rfl rfl).trans (congrArg nI (by omega))) ?_
          refine p_X3_32 dX3_readNumber_66 (hp_s _ _ _) ?_
          refine xt_eq (hp_hp _ _ _ _) ?_
          refine inc4 (2) dX3_readNumber_69 rfl (by decide) rfl ?_
          refine xt_goto 28 dX3_readNumber_72 rfl ?_
          refine il4 dX3_readNumber_28 ?_
          refine xt_iconst (2) dX3_readNumber_30 rfl ?_
          refine xt_icmp_ge 75 dX3_readNumber_31 rfl (fun _ => ?_) (fun q => absurd (by decide) q)
          refine al0 dX3_readNumber_75 ?_
          refine s_X3_67 dX3_readNumber_76 (cn_X3_digitIsNext hT hg ht (a := sk tp t b + 2) (by omega)) (hp_s _ _ _) ⟨lb rfl, lb rfl, lb rfl, lb rfl⟩ ?_
          refine xt_eqv 0 (if_neg hd2) ?_
          refine xt_if_eq 84 dX3_readNumber_79 rfl (fun _ => ?_) (fun q => absurd (by decide) q)
          refine al0 dX3_readNumber_84 ?_
          refine g_X3_28 dX3_readNumber_85 (hp_s _ _ _) ?_
          refine il1 dX3_readNumber_88 ?_
          refine il2 dX3_readNumber_89 ?_
          apply xj_if_eq 98 dX3_readNumber_90 rfl
          · intro k90
            refine ⟨fun c90 => ?_, fun c90 => ?_⟩
            · refine il3 dX3_readNumber_98 ?_
              exact xt_it1 k90 c90
            · refine il3 dX3_readNumber_93 ?_
              refine xt_ineg dX3_readNumber_94 ?_
              refine xt_goto 99 dX3_readNumber_95 rfl ?_
              exact xt_it2 k90 c90
          · skip
            refine xt_iast (k) (hp_nt (by omega) h122) (by omega) rfl (by decide) dX3_readNumber_99 ?_
            refine xt_iconst (1) dX3_readNumber_100 rfl ?_
            exact xt_zret dX3_readNumber_101 rfl (Or.inr rfl) (lb rfl) (lb rfl) ⟨rfl, ⟨_, hp_comm _ _ _ (by decide), fun v hv => by cases hv; rfl⟩, rfl⟩
      · obtain rfl := hres.symm.trans (rN2_1 hd0 hd1)
        refine al0 dX3_readNumber_7 ?_
        refine s_X3_36 dX3_readNumber_8 (cn_X3_atEnd hT hg ht (a := b) hb) (hp_s _ _ _) ⟨lb rfl, lb rfl, lb rfl, lb rfl⟩ ?_
        refine xt_eqv 0 (if_neg (by omega)) ?_
        refine xt_if_ne 21 dX3_readNumber_11 rfl (fun q => absurd (by decide) q) (fun _ => ?_)
        refine al0 dX3_readNumber_14 ?_
        refine s_X3_67 dX3_readNumber_15 (cn_X3_digitIsNext hT hg ht (a := sk tp t b) (by omega)) (hp_s _ _ _) ⟨lb rfl, lb rfl, lb rfl, lb rfl⟩ ?_
        refine xt_eqv 1 (if_pos hd0) ?_
        refine xt_if_ne 23 dX3_readNumber_18 rfl (fun _ => ?_) (fun q => absurd q (by decide))
        refine xt_iconst (0) dX3_readNumber_23 rfl ?_
        refine is3 dX3_readNumber_24 (by decide) rfl ?_
        refine xt_iconst (0) dX3_readNumber_25 rfl ?_
        refine is4 dX3_readNumber_26 (by decide) rfl ?_
        refine il4 dX3_readNumber_28 ?_
        refine xt_iconst (2) dX3_readNumber_30 rfl ?_
        refine xt_icmp_ge 75 dX3_readNumber_31 rfl (fun q => absurd q (by decide)) (fun _ => ?_)
        refine al0 dX3_readNumber_34 ?_
        refine s_X3_67 dX3_readNumber_35 (cn_X3_digitIsNext hT hg ht (a := sk tp t b) (by omega)) (hp_s _ _ _) ⟨lb rfl, lb rfl, lb rfl, lb rfl⟩ ?_
        refine xt_eqv 1 (if_pos hd0) ?_
        refine xt_if_eq 75 dX3_readNumber_38 rfl (fun q => absurd q (by decide)) (fun _ => ?_)
        refine xt_bipush (10) dX3_readNumber_41 rfl ?_
        refine il3 dX3_readNumber_43 ?_
        refine xt_imul dX3_readNumber_44 ?_
        refine al0 dX3_readNumber_45 ?_
        refine g_X3_9 dX3_readNumber_46 (hp_s _ _ _) ?_
        refine al0 dX3_readNumber_49 ?_
        refine g_X3_32 dX3_readNumber_50 (hp_s _ _ _) ?_
        refine xt_cald (sk tp t (b)) (hp_nt (by omega) hT) (by omega) rfl (by decide) dX3_readNumber_53 ?_
        refine xt_eqv (tp (sk tp t b)) (hg _ (by omega)) ?_
        refine xt_bipush (48) dX3_readNumber_54 rfl ?_
        refine xt_isub dX3_readNumber_56 ?_
        refine xt_iadd dX3_readNumber_57 ?_
        refine xt_eqv (dg1 tp (sk tp t b)) dg1_c ?_
        refine is3 dX3_readNumber_58 (by decide) rfl ?_
        refine al0 dX3_readNumber_59 ?_
        refine xt_dup dX3_readNumber_60 rfl ?_
        refine g_X3_32 dX3_readNumber_61 (hp_s _ _ _) ?_
        refine xt_iconst (1) dX3_readNumber_64 rfl ?_
        refine xt_iadd dX3_readNumber_65 ?_
        refine xt_eqv (nI (sk tp t b + 1)) ((ne_add (a := sk tp t (b)) (b := 1) rfl rfl).trans (congrArg nI (by omega))) ?_
        refine p_X3_32 dX3_readNumber_66 (hp_s _ _ _) ?_
        refine xt_eq (hp_hp _ _ _ _) ?_
        refine inc4 (1) dX3_readNumber_69 rfl (by decide) rfl ?_
        refine xt_goto 28 dX3_readNumber_72 rfl ?_
        refine il4 dX3_readNumber_28 ?_
        refine xt_iconst (2) dX3_readNumber_30 rfl ?_
        refine xt_icmp_ge 75 dX3_readNumber_31 rfl (fun q => absurd q (by decide)) (fun _ => ?_)
        refine al0 dX3_readNumber_34 ?_
        refine s_X3_67 dX3_readNumber_35 (cn_X3_digitIsNext hT hg ht (a := sk tp t b + 1) (by omega)) (hp_s _ _ _) ⟨lb rfl, lb rfl, lb rfl, lb rfl⟩ ?_
        refine xt_eqv 0 (if_neg hd1) ?_
        refine xt_if_eq 75 dX3_readNumber_38 rfl (fun _ => ?_) (fun q => absurd (by decide) q)
        refine al0 dX3_readNumber_75 ?_
        refine s_X3_67 dX3_readNumber_76 (cn_X3_digitIsNext hT hg ht (a := sk tp t b + 1) (by omega)) (hp_s _ _ _) ⟨lb rfl, lb rfl, lb rfl, lb rfl⟩ ?_
        refine xt_eqv 0 (if_neg hd1) ?_
        refine xt_if_eq 84 dX3_readNumber_79 rfl (fun _ => ?_) (fun q => absurd (by decide) q)
        refine al0 dX3_readNumber_84 ?_
        refine g_X3_28 dX3_readNumber_85 (hp_s _ _ _) ?_
        refine il1 dX3_readNumber_88 ?_
        refine il2 dX3_readNumber_89 ?_
        apply xj_if_eq 98 dX3_readNumber_90 rfl
        · intro k90
          refine ⟨fun c90 => ?_, fun c90 => ?_⟩
          · refine il3 dX3_readNumber_98 ?_
            exact xt_it1 k90 c90
          · refine il3 dX3_readNumber_93 ?_
            refine xt_ineg dX3_readNumber_94 ?_
            refine xt_goto 99 dX3_readNumber_95 rfl ?_
            exact xt_it2 k90 c90
        · skip
          refine xt_iast (k) (hp_nt (by omega) h122) (by omega) rfl (by decide) dX3_readNumber_99 ?_
          refine xt_iconst (1) dX3_readNumber_100 rfl ?_
          exact xt_zret dX3_readNumber_101 rfl (Or.inr rfl) (lb rfl) (lb rfl) ⟨rfl, ⟨_, hp_comm _ _ _ (by decide), fun v hv => by cases hv; rfl⟩, rfl⟩
    · obtain rfl := hres.symm.trans (rN2_0 hd0)
      by_cases he : t ≤ sk tp t b
      · refine al0 dX3_readNumber_7 ?_
        refine s_X3_36 dX3_readNumber_8 (cn_X3_atEnd hT hg ht (a := b) hb) (hp_s _ _ _) ⟨lb rfl, lb rfl, lb rfl, lb rfl⟩ ?_
        refine xt_eqv 1 (if_pos he) ?_
        refine xt_if_ne 21 dX3_readNumber_11 rfl (fun _ => ?_) (fun q => absurd q (by decide))
        refine xt_iconst (0) dX3_readNumber_21 rfl ?_
        exact xt_zret dX3_readNumber_22 rfl (Or.inl rfl) (lb rfl) (lb rfl) ⟨rfl, ⟨f, by rw [hp_id _ h122], fun v hv => nomatch hv⟩, rfl⟩
      · refine al0 dX3_readNumber_7 ?_
        refine s_X3_36 dX3_readNumber_8 (cn_X3_atEnd hT hg ht (a := b) hb) (hp_s _ _ _) ⟨lb rfl, lb rfl, lb rfl, lb rfl⟩ ?_
        refine xt_eqv 0 (if_neg he) ?_
        refine xt_if_ne 21 dX3_readNumber_11 rfl (fun q => absurd (by decide) q) (fun _ => ?_)
        refine al0 dX3_readNumber_14 ?_
        refine s_X3_67 dX3_readNumber_15 (cn_X3_digitIsNext hT hg ht (a := sk tp t b) (by omega)) (hp_s _ _ _) ⟨lb rfl, lb rfl, lb rfl, lb rfl⟩ ?_
        refine xt_eqv 0 (if_neg hd0) ?_
        refine xt_if_ne 23 dX3_readNumber_18 rfl (fun q => absurd (by decide) q) (fun _ => ?_)
        refine xt_iconst (0) dX3_readNumber_21 rfl ?_
        exact xt_zret dX3_readNumber_22 rfl (Or.inl rfl) (lb rfl) (lb rfl) ⟨rfl, ⟨f, by rw [hp_id _ h122], fun v hv => nomatch hv⟩, rfl⟩
  have hs := sk_le (tp := tp) ha
  by_cases hc : sk tp t a < t ∧ tp (sk tp t a) = 45
  · refine al0 dX3_readNumber_0 ?_
    refine xt_bipush (45) dX3_readNumber_1 rfl ?_
    refine s_X3_44 dX3_readNumber_3 (cn_X3_readSign_1 hT hg ht (a := a) ha _ hc) (hp_s _ _ _) ⟨lb rfl, lb rfl, lb rfl, lb rfl⟩ ?_
    refine is2 dX3_readNumber_6 (by decide) rfl ?_
    exact go 1 _ hc.1 ((rNum_1 hc).symm.trans hres)
  · refine al0 dX3_readNumber_0 ?_
    refine xt_bipush (45) dX3_readNumber_1 rfl ?_
    refine s_X3_44 dX3_readNumber_3 (cn_X3_readSign_0 hT hg ht (a := a) ha _ hc) (hp_s _ _ _) ⟨lb rfl, lb rfl, lb rfl, lb rfl⟩ ?_
    refine is2 dX3_readNumber_6 (by decide) rfl ?_
    exact go 0 _ hs ((rNum_0 hc).symm.trans hres)
