/-- an even one whose turn and axis are told anew -/
def aq (q : Nat → Int32) (t : Int32) (ax : Nat) : Nat → Int32 := upd (upd q 5 t) 6 (nI ax)
theorem goneQ_aq (q : Nat → Int32) (t : Int32) (ax : Nat) (k al : Int32) : goneQ (aq q t ax) k al = goneQ q k al := by
  have e : ∀ j, j < 5 → aq q t ax j = q j := fun j hj => by simp only [aq, upd]; rw [if_neg (by omega), if_neg (by omega)]
  unfold goneQ farQ turnsQ wayQ
  rw [e 0 (by omega), e 1 (by omega), e 2 (by omega), e 3 (by omega)]
def aeB (q : Nat → Int32) (t : Int32) (al : Nat) : Int32 := goneQ q t (nI al) - goneQ q (t - 1) (nI al)
/-- turn, axis; which axis moves and by how much (0: none) -/
def aeF (q : Nat → Int32) : Nat → Int32 → Nat → Int32 × Nat × Nat × Int32
  | 0, t, ax => (t, ax, 0, 0)
  | i + 1, t, ax => if ax < 3 then (if aeB q t ax = 0 then aeF q i t (ax + 1) else (t, ax + 1, ax, aeB q t ax)) else (if aeB q (t + 1) 0 = 0 then aeF q i (t + 1) 1 else (t + 1, 1, 0, aeB q (t + 1) 0))
theorem ePc_congr {q q' : Nat → Int32} (h : ∀ j, j < 9 → q j = q' j) : ePc q = ePc q' := by
  unfold ePc turnsQ
  rw [h 0 (by omega), h 1 (by omega), h 2 (by omega), h 3 (by omega), h 4 (by omega), h 5 (by omega), h 6 (by omega), h 7 (by omega), h 8 (by omega)]
theorem ePc_ax (q : Nat → Int32) (t : Int32) (ax : Nat) (v : Nat) : (.inr (2, [.int (aq q t ax 0), .int (aq q t ax 1), .int (aq q t ax 2), .int (aq q t ax 3), .int (aq q t ax 4), .int (turnsQ (aq q t ax)), .int (aq q t ax 5), .int (nI v), .int (aq q t ax 7), .int (aq q t ax 8)]) : ax_E) = ePc (aq q t v) := by
  simp [ePc, turnsQ, aq, upd]
theorem ePc_tn (q : Nat → Int32) (t : Int32) (ax : Nat) (v : Int32) : (.inr (2, [.int (aq q t ax 0), .int (aq q t ax 1), .int (aq q t ax 2), .int (aq q t ax 3), .int (aq q t ax 4), .int (turnsQ (aq q t ax)), .int v, .int (aq q t ax 6), .int (aq q t ax 7), .int (aq q t ax 8)]) : ax_E) = ePc (aq q v ax) := by
  simp [ePc, turnsQ, aq, upd]
theorem aq_6 (q : Nat → Int32) (t : Int32) (ax : Nat) : aq q t ax 6 = nI ax := by simp [aq, upd]
theorem aq_5 (q : Nat → Int32) (t : Int32) (ax : Nat) : aq q t ax 5 = t := by simp [aq, upd]
theorem aq_id {q : Nat → Int32} {ax : Nat} (h : q 6 = nI ax) : aq q (q 5) ax = q := by
  funext j
  simp only [aq, upd]
  by_cases h6 : j = 6
  · subst h6; simp [h]
  · by_cases h5 : j = 5
    · subst h5; simp
    · simp [h6, h5]
def aeM (f : Nat → Int32) (s : Int32 × Nat × Nat × Int32) : Nat → Int32 := if s.2.2.2 = 0 then f else upd f s.2.2.1 s.2.2.2
set_option maxHeartbeats 400000 in
set_option maxRecDepth 100000 in
theorem cn_X2_advanceEven {h : ax_H} {n : Nat}  {p : Nat} {q : Nat → Int32} (hp0 : h p = some (ePc q)) {mv : Nat} {f : Nat → Int32} (hmv : h mv = some (ax_I 3 f)) (hpm : mv ≠ p) {ax0 : Nat} (hax : q 6 = nI ax0) (hal : ax0 ≤ 3) : ax_C yX2_advanceEven cX2_advanceEven 5 none 2 0 0 [.ref p, .ref mv] h n (kv (hp (hp h p (ePc (aq q (aeF q 6 (q 5) ax0).1 (aeF q 6 (q 5) ax0).2.1))) mv (ax_I 3 (aeM f (aeF q 6 (q 5) ax0)))) n) := by
  refine ax_C.go RX2 "advanceEven" [some (.ref p), some (.ref mv), none, none, none] rfl rfl pn_X2 (lb rfl) rfl (fun l G cy bs => ?_)
  have lp : ∀ (d i : Nat), i + d = 6 → ∀ (t : Int32) (ax : Nat), ax ≤ 3 → aeF q d t ax = (aeF q 6 (q 5) ax0) → ∀ (A B : Option Value), ax_T l G cy bs (ax_rm 2 0 0) RX2 "advanceEven" cX2_advanceEven 5 none (kv (hp (hp h p (ePc (aq q (aeF q 6 (q 5) ax0).1 (aeF q 6 (q 5) ax0).2.1))) mv (ax_I 3 (aeM f (aeF q 6 (q 5) ax0)))) n) 0 0 2 [some (.ref p), some (.ref mv), some (.int (nI i)), A, B] [] (hp h p (ePc (aq q (t) (ax)))) n 0 0 := by
    intro d
    induction d with
    | zero =>
      intro i hi t ax hax hr A B
      obtain rfl : i = 6 := by omega
      have hr : (t, ax, 0, 0) = (aeF q 6 (q 5) ax0) := hr
      refine il2 dX2_advanceEven_2 ?_
      refine xt_bipush (6) dX2_advanceEven_3 rfl ?_
      refine xt_icmp_ge 86 dX2_advanceEven_5 rfl (fun _ => ?_) (fun q => absurd (by decide) q)
      exact xt_ret dX2_advanceEven_86 rfl (lb rfl) (lb rfl) ⟨rfl, by rw [← hr]; unfold aeM; rw [if_pos rfl]; exact (hp_id _ (hp_nt hpm hmv)).symm, rfl⟩
    | succ d ih =>
      intro i hi t ax hax hr A B
      have hr : (if ax < 3 then (if aeB q t ax = 0 then aeF q d t (ax + 1) else (t, ax + 1, ax, aeB q t ax)) else (if aeB q (t + 1) 0 = 0 then aeF q d (t + 1) 1 else (t + 1, 1, 0, aeB q (t + 1) 0))) = (aeF q 6 (q 5) ax0) := hr
      rcases (show ax < 3 ∨ ax = 3 by omega) with hx | hx
      · rw [if_pos hx] at hr
        refine il2 dX2_advanceEven_2 ?_
        refine xt_bipush (6) dX2_advanceEven_3 rfl ?_
        refine xt_icmp_ge 86 dX2_advanceEven_5 rfl (fun q => absurd q (nI_ge (a := i) (b := 6) (by omega) (by decide))) (fun _ => ?_)
        refine al0 dX2_advanceEven_8 ?_
        refine g_X2_43 dX2_advanceEven_9 (hp_s _ _ _) ?_
        refine xt_eqv (nI ax) (aq_6 _ _ _) ?_
        refine xt_iconst (3) dX2_advanceEven_12 rfl ?_
        refine xt_icmp_lt 31 dX2_advanceEven_13 rfl (fun _ => ?_) (fun q => absurd (nI_lt (b := 3) (by omega) (by decide)) q)
        refine al0 dX2_advanceEven_31 ?_
        refine g_X2_43 dX2_advanceEven_32 (hp_s _ _ _) ?_
        refine xt_eqv (nI ax) (aq_6 _ _ _) ?_
        refine is3 dX2_advanceEven_35 (by decide) rfl ?_
        refine al0 dX2_advanceEven_36 ?_
        refine xt_dup dX2_advanceEven_37 rfl ?_
        refine g_X2_43 dX2_advanceEven_38 (hp_s _ _ _) ?_
        refine xt_eqv (nI ax) (aq_6 _ _ _) ?_
        refine xt_iconst (1) dX2_advanceEven_41 rfl ?_
        refine xt_iadd dX2_advanceEven_42 ?_
        refine xt_eqv (nI (ax + 1)) (nI_1 _) ?_
        refine p_X2_43 dX2_advanceEven_43 (hp_s _ _ _) ?_
        refine xt_eq (hp_hp _ _ _ _) ?_
        refine xt_heq (h2 := (hp h p (ePc (aq q (t) (ax + 1))))) (by rw [← ePc_ax q (t) (ax) (ax + 1)]) ?_
        refine al0 dX2_advanceEven_46 ?_
        refine al0 dX2_advanceEven_47 ?_
        refine g_X2_40 dX2_advanceEven_48 (hp_s _ _ _) ?_
        refine xt_eqv (t) (aq_5 _ _ _) ?_
        refine il3 dX2_advanceEven_51 ?_
        refine s_X2_76 dX2_advanceEven_52 (cn_X2_gone (hp_s _ _ _) _ _) (hp_s _ _ _) ⟨lb rfl, lb rfl, lb rfl, lb rfl⟩ ?_
        refine al0 dX2_advanceEven_55 ?_
        refine al0 dX2_advanceEven_56 ?_
        refine g_X2_40 dX2_advanceEven_57 (hp_s _ _ _) ?_
        refine xt_eqv (t) (aq_5 _ _ _) ?_
        refine xt_iconst (1) dX2_advanceEven_60 rfl ?_
        refine xt_isub dX2_advanceEven_61 ?_
        refine il3 dX2_advanceEven_62 ?_
        refine s_X2_76 dX2_advanceEven_63 (cn_X2_gone (hp_s _ _ _) _ _) (hp_s _ _ _) ⟨lb rfl, lb rfl, lb rfl, lb rfl⟩ ?_
        refine xt_isub dX2_advanceEven_66 ?_
        refine xt_eqv (aeB q (t) (ax)) (by rw [goneQ_aq, goneQ_aq]; rfl) ?_
        refine is4 dX2_advanceEven_67 (by decide) rfl ?_
        refine il4 dX2_advanceEven_69 ?_
        refine xt_if_eq 80 dX2_advanceEven_71 rfl (fun c71 => ?_) (fun c71 => ?_)
        · refine inc2 (nI (i + 1)) dX2_advanceEven_80 (nI_1 _) (by decide) rfl ?_
          refine xt_goto 2 dX2_advanceEven_83 rfl ?_
          rw [if_pos c71] at hr
          exact ih (i + 1) (by omega) _ _ (by omega) hr _ _
        · refine al1 dX2_advanceEven_74 ?_
          refine il3 dX2_advanceEven_75 ?_
          refine il4 dX2_advanceEven_76 ?_
          refine xt_iast (ax) (hp_nt (by omega) hmv) (by omega) rfl (by decide) dX2_advanceEven_78 ?_
          exact xt_ret dX2_advanceEven_79 rfl (lb rfl) (lb rfl) ⟨rfl, by rw [if_neg c71] at hr; rw [← hr]; unfold aeM; rw [if_neg c71], rfl⟩
      · subst hx
        rw [if_neg (by decide)] at hr
        refine il2 dX2_advanceEven_2 ?_
        refine xt_bipush (6) dX2_advanceEven_3 rfl ?_
        refine xt_icmp_ge 86 dX2_advanceEven_5 rfl (fun q => absurd q (nI_ge (a := i) (b := 6) (by omega) (by decide))) (fun _ => ?_)
        refine al0 dX2_advanceEven_8 ?_
        refine g_X2_43 dX2_advanceEven_9 (hp_s _ _ _) ?_
        refine xt_eqv (nI 3) (aq_6 _ _ _) ?_
        refine xt_iconst (3) dX2_advanceEven_12 rfl ?_
        refine xt_icmp_lt 31 dX2_advanceEven_13 rfl (fun q => absurd q (by decide)) (fun _ => ?_)
        refine al0 dX2_advanceEven_16 ?_
        refine xt_iconst (0) dX2_advanceEven_17 rfl ?_
        refine p_X2_43 dX2_advanceEven_18 (hp_s _ _ _) ?_
        refine xt_eq (hp_hp _ _ _ _) ?_
        refine xt_heq (h2 := (hp h p (ePc (aq q (t) (0))))) (by rw [← ePc_ax q t 3 0]; rfl) ?_
        refine al0 dX2_advanceEven_21 ?_
        refine xt_dup dX2_advanceEven_22 rfl ?_
        refine g_X2_40 dX2_advanceEven_23 (hp_s _ _ _) ?_
        refine xt_eqv (t) (aq_5 _ _ _) ?_
        refine xt_iconst (1) dX2_advanceEven_26 rfl ?_
        refine xt_iadd dX2_advanceEven_27 ?_
        refine p_X2_40 dX2_advanceEven_28 (hp_s _ _ _) ?_
        refine xt_eq (hp_hp _ _ _ _) ?_
        refine xt_heq (h2 := (hp h p (ePc (aq q (t + 1) (0))))) (by rw [← ePc_tn q t 0 (t + 1)]) ?_
        refine al0 dX2_advanceEven_31 ?_
        refine g_X2_43 dX2_advanceEven_32 (hp_s _ _ _) ?_
        refine xt_eqv (nI 0) (aq_6 _ _ _) ?_
        refine is3 dX2_advanceEven_35 (by decide) rfl ?_
        refine al0 dX2_advanceEven_36 ?_
        refine xt_dup dX2_advanceEven_37 rfl ?_
        refine g_X2_43 dX2_advanceEven_38 (hp_s _ _ _) ?_
        refine xt_eqv (nI 0) (aq_6 _ _ _) ?_
        refine xt_iconst (1) dX2_advanceEven_41 rfl ?_
        refine xt_iadd dX2_advanceEven_42 ?_
        refine xt_eqv (nI (0 + 1)) (nI_1 _) ?_
        refine p_X2_43 dX2_advanceEven_43 (hp_s _ _ _) ?_
        refine xt_eq (hp_hp _ _ _ _) ?_
        refine xt_heq (h2 := (hp h p (ePc (aq q (t + 1) (0 + 1))))) (by rw [← ePc_ax q (t + 1) (0) (0 + 1)]) ?_
        refine al0 dX2_advanceEven_46 ?_
        refine al0 dX2_advanceEven_47 ?_
        refine g_X2_40 dX2_advanceEven_48 (hp_s _ _ _) ?_
        refine xt_eqv (t + 1) (aq_5 _ _ _) ?_
        refine il3 dX2_advanceEven_51 ?_
        refine s_X2_76 dX2_advanceEven_52 (cn_X2_gone (hp_s _ _ _) _ _) (hp_s _ _ _) ⟨lb rfl, lb rfl, lb rfl, lb rfl⟩ ?_
        refine al0 dX2_advanceEven_55 ?_
        refine al0 dX2_advanceEven_56 ?_
        refine g_X2_40 dX2_advanceEven_57 (hp_s _ _ _) ?_
        refine xt_eqv (t + 1) (aq_5 _ _ _) ?_
        refine xt_iconst (1) dX2_advanceEven_60 rfl ?_
        refine xt_isub dX2_advanceEven_61 ?_
        refine il3 dX2_advanceEven_62 ?_
        refine s_X2_76 dX2_advanceEven_63 (cn_X2_gone (hp_s _ _ _) _ _) (hp_s _ _ _) ⟨lb rfl, lb rfl, lb rfl, lb rfl⟩ ?_
        refine xt_isub dX2_advanceEven_66 ?_
        refine xt_eqv (aeB q (t + 1) 0) (by rw [goneQ_aq, goneQ_aq]; rfl) ?_
        refine is4 dX2_advanceEven_67 (by decide) rfl ?_
        refine il4 dX2_advanceEven_69 ?_
        refine xt_if_eq 80 dX2_advanceEven_71 rfl (fun c71 => ?_) (fun c71 => ?_)
        · refine inc2 (nI (i + 1)) dX2_advanceEven_80 (nI_1 _) (by decide) rfl ?_
          refine xt_goto 2 dX2_advanceEven_83 rfl ?_
          rw [if_pos c71] at hr
          exact ih (i + 1) (by omega) _ _ (by omega) hr _ _
        · refine al1 dX2_advanceEven_74 ?_
          refine il3 dX2_advanceEven_75 ?_
          refine il4 dX2_advanceEven_76 ?_
          refine xt_iast (0) (hp_nt (by omega) hmv) (by omega) rfl (by decide) dX2_advanceEven_78 ?_
          exact xt_ret dX2_advanceEven_79 rfl (lb rfl) (lb rfl) ⟨rfl, by rw [if_neg c71] at hr; rw [← hr]; unfold aeM; rw [if_neg c71], rfl⟩
  refine xt_heq (h2 := (hp h p (ePc (aq q (q 5) (ax0))))) (by rw [aq_id hax]; exact (hp_id h hp0).symm) ?_
  refine xt_iconst (0) dX2_advanceEven_0 rfl ?_
  refine is2 dX2_advanceEven_1 (by decide) rfl ?_
  exact lp 6 0 rfl _ _ hal rfl _ _
def dn1 (q : Nat → Int32) : Nat → Int32 := upd q 4 (q 4 + 1)
def lnF (q f : Nat → Int32) : Nat → Nat → Int32
  | 0 => f
  | j + 1 => upd (lnF q f j) j (goneQ q (q 4 + 1) (nI j) - goneQ q (q 4) (nI j))
theorem lnF_s (q f : Nat → Int32) (j : Nat) : lnF q f (j + 1) = upd (lnF q f j) j (goneQ q (q 4 + 1) (nI j) - goneQ q (q 4) (nI j)) := rfl
theorem ePc_dn (q : Nat → Int32) : (.inr (2, [.int (q 0), .int (q 1), .int (q 2), .int (q 3), .int (q 4 + 1), .int (turnsQ q), .int (q 5), .int (q 6), .int (q 7), .int (q 8)]) : ax_E) = ePc (dn1 q) := by simp [ePc, turnsQ, dn1, upd]
set_option maxHeartbeats 400000 in
set_option maxRecDepth 100000 in
theorem cn_X2_advance_a {h : ax_H} {n : Nat}  {p : Nat} {q : Nat → Int32} (hp0 : h p = some (ePc q)) {mv : Nat} {f : Nat → Int32} (hmv : h mv = some (ax_I 3 f)) (hpm : mv ≠ p) (hk : ¬ isA q = 0) : ax_C yX2_advance cX2_advance 3 none 3 0 0 [.ref p, .ref mv] h n (kv (hp (hp h mv (ax_I 3 (upd (upd (z3 f) 0 (cM q).1) 1 (cM q).2))) p (ePc (dn1 (arcQ q)))) n) := by
  refine ax_C.go RX2 "advance" [some (.ref p), some (.ref mv), none] rfl rfl pn_X2 (lb rfl) rfl (fun l G cy bs => ?_)
  refine al1 dX2_advance_0 ?_
  refine xt_iconst (0) dX2_advance_1 rfl ?_
  refine xt_iconst (0) dX2_advance_2 rfl ?_
  refine xt_iast (0) hmv (by omega) rfl (by decide) dX2_advance_3 ?_
  refine al1 dX2_advance_4 ?_
  refine xt_iconst (1) dX2_advance_5 rfl ?_
  refine xt_iconst (0) dX2_advance_6 rfl ?_
  refine xt_iast (1) (hp_s _ _ _) (by omega) rfl (by decide) dX2_advance_7 ?_
  refine xt_eq (hp_hp _ _ _ _) ?_
  refine al1 dX2_advance_8 ?_
  refine xt_iconst (2) dX2_advance_9 rfl ?_
  refine xt_iconst (0) dX2_advance_10 rfl ?_
  refine xt_iast (2) (hp_s _ _ _) (by omega) rfl (by decide) dX2_advance_11 ?_
  refine xt_eq (hp_hp _ _ _ _) ?_
  refine al0 dX2_advance_12 ?_
  refine s_X2_52 dX2_advance_13 (cn_X2_isArc (hp_nt (by omega) hp0)) (hp_nt (by omega) hp0) ⟨lb rfl, lb rfl, lb rfl, lb rfl⟩ ?_
  refine xt_if_eq 27 dX2_advance_16 rfl (fun q => absurd q hk) (fun _ => ?_)
  refine al0 dX2_advance_19 ?_
  refine al1 dX2_advance_20 ?_
  refine s_X2_69 dX2_advance_21 (cn_X2_advanceArc (hp_nt (by omega) hp0) (hp_s _ _ _) hpm) (hp_nt (by omega) hp0) ⟨lb rfl, lb rfl, lb rfl, lb rfl⟩ ?_
  refine xt_goto 80 dX2_advance_24 rfl ?_
  refine al0 dX2_advance_80 ?_
  refine xt_dup dX2_advance_81 rfl ?_
  refine g_X2_24 dX2_advance_82 (hp_s _ _ _) ?_
  refine xt_iconst (1) dX2_advance_85 rfl ?_
  refine xt_iadd dX2_advance_86 ?_
  refine p_X2_24 dX2_advance_87 (hp_s _ _ _) ?_
  refine xt_eq (hp_hp _ _ _ _) ?_
  exact xt_ret dX2_advance_90 rfl (lb rfl) (lb rfl) ⟨rfl, by rw [ePc_dn]; (try rw [hp_hp]); rfl, rfl⟩
set_option maxHeartbeats 400000 in
set_option maxRecDepth 100000 in
theorem cn_X2_advance_e {h : ax_H} {n : Nat}  {p : Nat} {q : Nat → Int32} (hp0 : h p = some (ePc q)) {mv : Nat} {f : Nat → Int32} (hmv : h mv = some (ax_I 3 f)) (hpm : mv ≠ p) (hk : isA q = 0) (hk2 : q 0 = 2) {ax0 : Nat} (hax : q 6 = nI ax0) (hal : ax0 ≤ 3) : ax_C yX2_advance cX2_advance 3 none 3 0 0 [.ref p, .ref mv] h n (kv (hp (hp h mv (ax_I 3 (aeM (z3 f) (aeF q 6 (q 5) ax0)))) p (ePc (dn1 (aq q (aeF q 6 (q 5) ax0).1 (aeF q 6 (q 5) ax0).2.1)))) n) := by
  refine ax_C.go RX2 "advance" [some (.ref p), some (.ref mv), none] rfl rfl pn_X2 (lb rfl) rfl (fun l G cy bs => ?_)
  refine al1 dX2_advance_0 ?_
  refine xt_iconst (0) dX2_advance_1 rfl ?_
  refine xt_iconst (0) dX2_advance_2 rfl ?_
  refine xt_iast (0) hmv (by omega) rfl (by decide) dX2_advance_3 ?_
  refine al1 dX2_advance_4 ?_
  refine xt_iconst (1) dX2_advance_5 rfl ?_
  refine xt_iconst (0) dX2_advance_6 rfl ?_
  refine xt_iast (1) (hp_s _ _ _) (by omega) rfl (by decide) dX2_advance_7 ?_
  refine xt_eq (hp_hp _ _ _ _) ?_
  refine al1 dX2_advance_8 ?_
  refine xt_iconst (2) dX2_advance_9 rfl ?_
  refine xt_iconst (0) dX2_advance_10 rfl ?_
  refine xt_iast (2) (hp_s _ _ _) (by omega) rfl (by decide) dX2_advance_11 ?_
  refine xt_eq (hp_hp _ _ _ _) ?_
  refine al0 dX2_advance_12 ?_
  refine s_X2_52 dX2_advance_13 (cn_X2_isArc (hp_nt (by omega) hp0)) (hp_nt (by omega) hp0) ⟨lb rfl, lb rfl, lb rfl, lb rfl⟩ ?_
  refine xt_if_eq 27 dX2_advance_16 rfl (fun _ => ?_) (fun q => absurd hk q)
  refine al0 dX2_advance_27 ?_
  refine g_X2_9 dX2_advance_28 (hp_nt (by omega) hp0) ?_
  refine xt_iconst (2) dX2_advance_31 rfl ?_
  refine xt_icmp_ne 43 dX2_advance_32 rfl (fun q => absurd hk2 q) (fun _ => ?_)
  refine al0 dX2_advance_35 ?_
  refine al1 dX2_advance_36 ?_
  refine s_X2_73 dX2_advance_37 (cn_X2_advanceEven (hp_nt (by omega) hp0) (hp_s _ _ _) hpm hax hal) (hp_nt (by omega) hp0) ⟨lb rfl, lb rfl, lb rfl, lb rfl⟩ ?_
  refine xt_goto 80 dX2_advance_40 rfl ?_
  refine al0 dX2_advance_80 ?_
  refine xt_dup dX2_advance_81 rfl ?_
  refine g_X2_24 dX2_advance_82 (hp_nt (by omega) (hp_s _ _ _)) ?_
  refine xt_iconst (1) dX2_advance_85 rfl ?_
  refine xt_iadd dX2_advance_86 ?_
  refine p_X2_24 dX2_advance_87 (hp_nt (by omega) (hp_s _ _ _)) ?_
  exact xt_ret dX2_advance_90 rfl (lb rfl) (lb rfl) ⟨rfl, by rw [ePc_dn, hp_comm (hp h mv _) _ _ (Ne.symm hpm), hp_hp, hp_hp]; rfl, rfl⟩
set_option maxHeartbeats 400000 in
set_option maxRecDepth 100000 in
theorem cn_X2_advance_l {h : ax_H} {n : Nat}  {p : Nat} {q : Nat → Int32} (hp0 : h p = some (ePc q)) {mv : Nat} {f : Nat → Int32} (hmv : h mv = some (ax_I 3 f)) (hpm : mv ≠ p) (hk : isA q = 0) (hk2 : ¬ q 0 = 2) : ax_C yX2_advance cX2_advance 3 none 3 0 0 [.ref p, .ref mv] h n (kv (hp (hp h mv (ax_I 3 (lnF q (z3 f) 3))) p (ePc (dn1 q))) n) := by
  refine ax_C.go RX2 "advance" [some (.ref p), some (.ref mv), none] rfl rfl pn_X2 (lb rfl) rfl (fun l G cy bs => ?_)
  have lp : ∀ (d j : Nat), j + d = 3 → ∀ f1 : Nat → Int32, f1 = lnF q (z3 f) j → ax_T l G cy bs (ax_rm 3 0 0) RX2 "advance" cX2_advance 3 none (kv (hp (hp h mv (ax_I 3 (lnF q (z3 f) 3))) p (ePc (dn1 q))) n) 0 0 45 [some (.ref p), some (.ref mv), some (.int (nI j))] [] (hp h mv (ax_I 3 f1)) n 0 0 := by
    intro d
    induction d with
    | zero =>
      intro j hj f1 hf1
      obtain rfl : j = 3 := by omega
      subst hf1
      refine il2 dX2_advance_45 ?_
      refine xt_iconst (3) dX2_advance_46 rfl ?_
      refine xt_icmp_ge 80 dX2_advance_47 rfl (fun _ => ?_) (fun q => absurd (by decide) q)
      refine al0 dX2_advance_80 ?_
      refine xt_dup dX2_advance_81 rfl ?_
      refine g_X2_24 dX2_advance_82 (hp_nt (by omega) hp0) ?_
      refine xt_iconst (1) dX2_advance_85 rfl ?_
      refine xt_iadd dX2_advance_86 ?_
      refine p_X2_24 dX2_advance_87 (hp_nt (by omega) hp0) ?_
      exact xt_ret dX2_advance_90 rfl (lb rfl) (lb rfl) ⟨rfl, by rw [ePc_dn], rfl⟩
    | succ d ih =>
      intro j hj f1 hf1
      refine il2 dX2_advance_45 ?_
      refine xt_iconst (3) dX2_advance_46 rfl ?_
      refine xt_icmp_ge 80 dX2_advance_47 rfl (fun q => absurd q (nI_ge (a := j) (b := 3) (by omega) (by decide))) (fun _ => ?_)
      refine al1 dX2_advance_50 ?_
      refine il2 dX2_advance_51 ?_
      refine al0 dX2_advance_52 ?_
      refine al0 dX2_advance_53 ?_
      refine g_X2_24 dX2_advance_54 (hp_nt (by omega) hp0) ?_
      refine xt_iconst (1) dX2_advance_57 rfl ?_
      refine xt_iadd dX2_advance_58 ?_
      refine il2 dX2_advance_59 ?_
      refine s_X2_76 dX2_advance_60 (cn_X2_gone (hp_nt (by omega) hp0) _ _) (hp_nt (by omega) hp0) ⟨lb rfl, lb rfl, lb rfl, lb rfl⟩ ?_
      refine al0 dX2_advance_63 ?_
      refine al0 dX2_advance_64 ?_
      refine g_X2_24 dX2_advance_65 (hp_nt (by omega) hp0) ?_
      refine il2 dX2_advance_68 ?_
      refine s_X2_76 dX2_advance_69 (cn_X2_gone (hp_nt (by omega) hp0) _ _) (hp_nt (by omega) hp0) ⟨lb rfl, lb rfl, lb rfl, lb rfl⟩ ?_
      refine xt_isub dX2_advance_72 ?_
      refine xt_iast (j) (hp_s _ _ _) (by omega) rfl (by decide) dX2_advance_73 ?_
      refine xt_eq (hp_hp _ _ _ _) ?_
      refine inc2 (nI (j + 1)) dX2_advance_74 (nI_1 _) (by decide) rfl ?_
      refine xt_goto 45 dX2_advance_77 rfl ?_
      exact ih (j + 1) (by omega) _ (by rw [lnF_s, ← hf1])
  refine al1 dX2_advance_0 ?_
  refine xt_iconst (0) dX2_advance_1 rfl ?_
  refine xt_iconst (0) dX2_advance_2 rfl ?_
  refine xt_iast (0) hmv (by omega) rfl (by decide) dX2_advance_3 ?_
  refine al1 dX2_advance_4 ?_
  refine xt_iconst (1) dX2_advance_5 rfl ?_
  refine xt_iconst (0) dX2_advance_6 rfl ?_
  refine xt_iast (1) (hp_s _ _ _) (by omega) rfl (by decide) dX2_advance_7 ?_
  refine xt_eq (hp_hp _ _ _ _) ?_
  refine al1 dX2_advance_8 ?_
  refine xt_iconst (2) dX2_advance_9 rfl ?_
  refine xt_iconst (0) dX2_advance_10 rfl ?_
  refine xt_iast (2) (hp_s _ _ _) (by omega) rfl (by decide) dX2_advance_11 ?_
  refine xt_eq (hp_hp _ _ _ _) ?_
  refine al0 dX2_advance_12 ?_
  refine s_X2_52 dX2_advance_13 (cn_X2_isArc (hp_nt (by omega) hp0)) (hp_nt (by omega) hp0) ⟨lb rfl, lb rfl, lb rfl, lb rfl⟩ ?_
  refine xt_if_eq 27 dX2_advance_16 rfl (fun _ => ?_) (fun q => absurd hk q)
  refine al0 dX2_advance_27 ?_
  refine g_X2_9 dX2_advance_28 (hp_nt (by omega) hp0) ?_
  refine xt_iconst (2) dX2_advance_31 rfl ?_
  refine xt_icmp_ne 43 dX2_advance_32 rfl (fun _ => ?_) (fun q => absurd q hk2)
  refine xt_iconst (0) dX2_advance_43 rfl ?_
  refine is2 dX2_advance_44 (by decide) rfl ?_
  exact lp 3 0 rfl _ rfl
