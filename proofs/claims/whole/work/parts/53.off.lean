section AXQ
variable {l : Launch} {G : va_G} {cy : ax_Y} {b : Nat} {R : Room} {own nm : String} {cc : ByteArray} {nL : Nat} {ret : Option FieldType} {K : Option Value → ax_H → Nat → Prop} {mc ms pc : Nat} {lv : List (Option Value)} {st : List Value} {h : ax_H} {n cells slots : Nat} {D mR sR : Nat}
theorem sP_X8_189 {o : Nat} {fs : List Value} {a1 : Value} {PP : ax_H → Prop} {n2 : Nat} (hd : decode cc pc = .ok (.invokevirtual 189, 3)) (hC : ax_C yX8_offBy cX8_offBy 8 none 2 0 0 [.ref o, a1] h n (kP PP n2)) (ho : h o = some (.inr (8, fs))) (hD : 2 + 1 ≤ D ∧ cells + 0 ≤ mR ∧ slots + 0 ≤ sR ∧ (st.map fun v => v.category).sum ≤ 8) (kk : ∀ h2, PP h2 → ax_T l G cy b (ax_rm D mR sR) RX8 nm cc nL ret K mc ms (pc + 3) lv st h2 n2 cells slots) : ax_T l G cy b (ax_rm D mR sR) RX8 nm cc nL ret K mc ms pc lv (a1 :: .ref o :: st) h n cells slots :=
  xt_callV (as := [a1]) (hC l G cy b) ho rfl rfl mb993 mb8 mb992 sb68 (Or.inl mb990) de_X8_offBy ⟨hD.1, by show 8 + (8 + 11) + 34 * 2 ≤ 34 * D; have := hD.1; omega⟩ ⟨hD.2.1, hD.2.2.1⟩ hD.2.2.2 rfl hd (kP_k kk)
end AXQ
theorem lN_div {a b : Nat} (ha : a < 2 ^ 31) (hb : b < 2 ^ 31) : lN a / lN b = lN (a / b) := by
  apply Int64.toInt_inj.mp
  rw [Int64.toInt_div, lN_toInt ha, lN_toInt hb, lN_toInt (Nat.lt_of_le_of_lt (Nat.div_le_self a b) ha)]
  have h1 : ((a : Int).tdiv (b : Int)) = ((a / b : Nat) : Int) := rfl
  rw [h1]
  have hc := Nat.lt_of_le_of_lt (Nat.div_le_self a b) ha
  generalize a / b = c at hc ⊢
  apply Int.bmod_eq_of_le <;> omega
theorem lN_rem {a b : Nat} (ha : a < 2 ^ 31) (hb : b < 2 ^ 31) : lN a - lN a / lN b * lN b = lN (a % b) := by
  rw [lN_div ha hb, lN_mul, lN_sub (Nat.div_mul_le_self a b)]
  exact congrArg lN (by have := Nat.div_add_mod' a b; omega)
theorem lN_0 : lN 0 = 0 := by decide +kernel
/-- the fractions of a piece: S and those behind so many turns and axes -/
def SQ (S : Nat → Nat → Prop) (kd a b c : Int32) (j i : Nat) (x t : Nat) : Prop := S x t ∨ ∃ i2 j2, i2 < 3 ∧ 1 ≤ j2 ∧ j2 ≤ rTn a b c ∧ (j2 < j ∨ (j2 = j ∧ i2 < i)) ∧ x = oN kd a b c i2 j2 ∧ t = rTn a b c
theorem SQ_ins {S : Nat → Nat → Prop} {kd a b c : Int32} {j i : Nat} (hi : i < 3) (hj : 1 ≤ j ∧ j ≤ rTn a b c) (x t : Nat) : SQ S kd a b c j (i + 1) x t ↔ insF (SQ S kd a b c j i) (oN kd a b c i j) (rTn a b c) x t := by
  unfold SQ insF
  constructor
  · rintro (h | ⟨i2, j2, h1, h2, h3, h4, h5, h6⟩)
    · exact Or.inl (Or.inl h)
    · by_cases e : j2 = j ∧ i2 = i
      · obtain ⟨rfl, rfl⟩ := e; exact Or.inr ⟨h5, h6⟩
      · exact Or.inl (Or.inr ⟨i2, j2, h1, h2, h3, by omega, h5, h6⟩)
  · rintro ((h | ⟨i2, j2, h1, h2, h3, h4, h5, h6⟩) | ⟨h5, h6⟩)
    · exact Or.inl h
    · exact Or.inr ⟨i2, j2, h1, h2, h3, by omega, h5, h6⟩
    · exact Or.inr ⟨i, j, hi, hj.1, hj.2, by omega, h5, h6⟩
theorem SQ_nx {S : Nat → Nat → Prop} {kd a b c : Int32} {j : Nat} (x t : Nat) : SQ S kd a b c (j + 1) 0 x t ↔ SQ S kd a b c j 3 x t := by
  unfold SQ
  constructor
  · rintro (h | ⟨i2, j2, h1, h2, h3, h4, h5, h6⟩)
    · exact Or.inl h
    · exact Or.inr ⟨i2, j2, h1, h2, h3, by omega, h5, h6⟩
  · rintro (h | ⟨i2, j2, h1, h2, h3, h4, h5, h6⟩)
    · exact Or.inl h
    · exact Or.inr ⟨i2, j2, h1, h2, h3, by omega, h5, h6⟩
theorem SQ_all {S : Nat → Nat → Prop} {kd a b c : Int32} (h3 : ¬ 3 ≤ kd) {j : Nat} (hj : j = rTn a b c + 1) (x t : Nat) : (S x t ∨ SP kd a b c x t) ↔ SQ S kd a b c j 0 x t := by
  unfold SQ SP
  constructor
  · rintro (h | ⟨-, i, j2, h1, h2, h4, h5, h6⟩)
    · exact Or.inl h
    · exact Or.inr ⟨i, j2, h1, h2, h4, by omega, h5, h6⟩
  · rintro (h | ⟨i2, j2, h1, h2, h4, h5, h6, h7⟩)
    · exact Or.inl h
    · exact Or.inr ⟨h3, i2, j2, h1, h2, h4, h6, h7⟩
theorem SQ_0 {S : Nat → Nat → Prop} {kd a b c : Int32} (x t : Nat) : SQ S kd a b c 1 0 x t ↔ S x t := by
  unfold SQ
  constructor
  · rintro (h | ⟨i2, j2, h1, h2, h4, h5, h6, h7⟩)
    · exact h
    · omega
  · exact Or.inl
theorem offQ_n {q : Nat → Int32} (h : okP (q 0) (q 1) (q 2) (q 3)) (h3 : ¬ 3 ≤ q 0) {i j : Nat} (hi : i < 3) (hj : j ≤ rTn (q 1) (q 2) (q 3)) : ab (goneQ q (nI j) (nI i) * nI (rTn (q 1) (q 2) (q 3)) - nI j * wayQ q (nI i)) = nI (oN (q 0) (q 1) (q 2) (q 3) i j) := by
  obtain ⟨g1, g2, g3⟩ := gone_q h h3 hi (nI j)
  obtain ⟨-, -, -, -, t3⟩ := wI_int h h3 i
  rw [← (off_nat h h3 i hj).1, ab_sz, g1, g3, ← t3]
  rfl
set_option maxHeartbeats 400000 in
set_option maxRecDepth 100000 in
theorem cr_X2_raiseOff_a {h : ax_H} {n : Nat}  {p fp : Nat} {q : Nat → Int32} {a b : Nat} {S : Nat → Nat → Prop} (hp0 : h p = some (ePc q)) (hf : h fp = some (eFr (nI a) (nI b))) (hne : fp ≠ p) (hm : MX S a b) (hok : okP (q 0) (q 1) (q 2) (q 3)) (h3 : 3 ≤ q 0) : ax_C yX2_raiseOff cX2_raiseOff 4 none 2 0 0 [.ref p, .ref fp] h n (kP (fun h2 => ∃ a2 b2, h2 = hp h fp (eFr (nI a2) (nI b2)) ∧ MX (fun x t => S x t ∨ SP (q 0) (q 1) (q 2) (q 3) x t) a2 b2) n) := by
  refine ax_C.go RX2 "raiseOff" [some (.ref p), some (.ref fp), none, none] rfl rfl pn_X2 (lb rfl) rfl (fun l G cy bs => ?_)
  refine al0 dX2_raiseOff_0 ?_
  refine s_X2_52 dX2_raiseOff_1 (cn_X2_isArc hp0) hp0 ⟨lb rfl, lb rfl, lb rfl, lb rfl⟩ ?_
  refine xt_if_eq 8 dX2_raiseOff_4 rfl (fun q => absurd q (by rw [isA_ok hok, if_pos h3]; decide)) (fun _ => ?_)
  exact xt_ret dX2_raiseOff_7 rfl (lb rfl) (lb rfl) ⟨rfl, ⟨a, b, (hp_id h hf).symm, MX_congr (fun x t => ⟨fun z => z.elim id (fun y => absurd h3 y.1), Or.inl⟩) hm⟩, rfl⟩
set_option maxHeartbeats 400000 in
set_option maxRecDepth 100000 in
theorem cr_X2_raiseOff_n {h : ax_H} {n : Nat}  {p fp : Nat} {q : Nat → Int32} {a b : Nat} {S : Nat → Nat → Prop} (hp0 : h p = some (ePc q)) (hf : h fp = some (eFr (nI a) (nI b))) (hne : fp ≠ p) (hm : MX S a b) (hok : okP (q 0) (q 1) (q 2) (q 3)) (h3 : ¬ 3 ≤ q 0) : ax_C yX2_raiseOff cX2_raiseOff 4 none 2 0 0 [.ref p, .ref fp] h n (kP (fun h2 => ∃ a2 b2, h2 = hp h fp (eFr (nI a2) (nI b2)) ∧ MX (fun x t => S x t ∨ SP (q 0) (q 1) (q 2) (q 3) x t) a2 b2) n) := by
  refine ax_C.go RX2 "raiseOff" [some (.ref p), some (.ref fp), none, none] rfl rfl pn_X2 (lb rfl) rfl (fun l G cy bs => ?_)
  have hT := wI_int hok h3 0
  have hTn : turnsQ q = nI (rTn (q 1) (q 2) (q 3)) := (gone_q hok h3 (i := 0) (by omega) 0).2.1.trans hT.2.2.2.2
  have lp : ∀ (d j : Nat), j + d = rTn (q 1) (q 2) (q 3) + 1 → 1 ≤ j → ∀ (a1 b1 : Nat) (x4 : Option Value), MX (SQ S (q 0) (q 1) (q 2) (q 3) j 0) a1 b1 → ax_T l G cy bs (ax_rm 2 0 0) RX2 "raiseOff" cX2_raiseOff 4 none (kP (fun h2 => ∃ a2 b2, h2 = hp h fp (eFr (nI a2) (nI b2)) ∧ MX (fun x t => S x t ∨ SP (q 0) (q 1) (q 2) (q 3) x t) a2 b2) n) 0 0 10 [some (.ref p), some (.ref fp), some (.int (nI j)), x4] [] (hp h fp (eFr (nI a1) (nI b1))) n 0 0 := by
    intro d
    induction d with
    | zero =>
      intro j hj hj1 a1 b1 x4 hm1
      refine il2 dX2_raiseOff_10 ?_
      refine al0 dX2_raiseOff_11 ?_
      refine g_X2_37 dX2_raiseOff_12 (hp_nt (by omega) hp0) ?_
      refine xt_eqv (nI (rTn (q 1) (q 2) (q 3))) hTn ?_
      refine xt_icmp_gt 67 dX2_raiseOff_15 rfl (fun _ => ?_) (fun q => absurd (nI_lt (by omega) (by omega)) q)
      exact xt_ret dX2_raiseOff_67 rfl (lb rfl) (lb rfl) ⟨rfl, ⟨a1, b1, rfl, MX_congr (fun x t => SQ_all h3 (by omega) x t) hm1⟩, rfl⟩
    | succ d ih =>
      intro j hj hj1 a1 b1 x4 hm1
      have li : ∀ (e i : Nat), i + e = 3 → ∀ (a1 b1 : Nat), MX (SQ S (q 0) (q 1) (q 2) (q 3) j i) a1 b1 → ax_T l G cy bs (ax_rm 2 0 0) RX2 "raiseOff" cX2_raiseOff 4 none (kP (fun h2 => ∃ a2 b2, h2 = hp h fp (eFr (nI a2) (nI b2)) ∧ MX (fun x t => S x t ∨ SP (q 0) (q 1) (q 2) (q 3) x t) a2 b2) n) 0 0 20 [some (.ref p), some (.ref fp), some (.int (nI j)), some (.int (nI i))] [] (hp h fp (eFr (nI a1) (nI b1))) n 0 0 := by
        intro e
        induction e with
        | zero =>
          intro i hi a1 b1 hm1
          obtain rfl : i = 3 := by omega
          refine il3 dX2_raiseOff_20 ?_
          refine xt_iconst (3) dX2_raiseOff_21 rfl ?_
          refine xt_icmp_ge 61 dX2_raiseOff_22 rfl (fun _ => ?_) (fun q => absurd (by decide) q)
          refine inc2 (nI (j + 1)) dX2_raiseOff_61 (nI_1 _) (by decide) rfl ?_
          refine xt_goto 10 dX2_raiseOff_64 rfl ?_
          exact ih (j + 1) (by omega) (by omega) _ _ _ (MX_congr (fun x t => SQ_nx x t) hm1)
        | succ e ihe =>
          intro i hi a1 b1 hm1
          refine il3 dX2_raiseOff_20 ?_
          refine xt_iconst (3) dX2_raiseOff_21 rfl ?_
          refine xt_icmp_ge 61 dX2_raiseOff_22 rfl (fun q => absurd q (nI_ge (a := i) (b := 3) (by omega) (by decide))) (fun _ => ?_)
          refine al1 dX2_raiseOff_25 ?_
          refine al0 dX2_raiseOff_26 ?_
          refine il2 dX2_raiseOff_27 ?_
          refine il3 dX2_raiseOff_28 ?_
          refine s_X2_76 dX2_raiseOff_29 (cn_X2_gone (hp_nt (by omega) hp0) _ _) (hp_nt (by omega) hp0) ⟨lb rfl, lb rfl, lb rfl, lb rfl⟩ ?_
          refine al0 dX2_raiseOff_32 ?_
          refine g_X2_37 dX2_raiseOff_33 (hp_nt (by omega) hp0) ?_
          refine xt_eqv (nI (rTn (q 1) (q 2) (q 3))) hTn ?_
          refine xt_imul dX2_raiseOff_36 ?_
          refine il2 dX2_raiseOff_37 ?_
          refine al0 dX2_raiseOff_38 ?_
          refine il3 dX2_raiseOff_39 ?_
          refine s_X2_60 dX2_raiseOff_40 (cn_X2_way (hp_nt (by omega) hp0) _) (hp_nt (by omega) hp0) ⟨lb rfl, lb rfl, lb rfl, lb rfl⟩ ?_
          refine xt_imul dX2_raiseOff_43 ?_
          refine xt_isub dX2_raiseOff_44 ?_
          refine s_X2_27 dX2_raiseOff_45 ⟨lb rfl, lb rfl, lb rfl, lb rfl⟩ ?_
          refine xt_eqv (nI (oN (q 0) (q 1) (q 2) (q 3) i j)) (offQ_n hok h3 (by omega) (by omega)) ?_
          refine al0 dX2_raiseOff_48 ?_
          refine g_X2_37 dX2_raiseOff_49 (hp_nt (by omega) hp0) ?_
          refine xt_eqv (nI (rTn (q 1) (q 2) (q 3))) hTn ?_
          refine s_X2_85 dX2_raiseOff_52 (cn_X0_raise (hp_s _ _ _) _ _) (hp_s _ _ _) ⟨lb rfl, lb rfl, lb rfl, lb rfl⟩ ?_
          obtain ⟨a2, b2, hm2, e1, e2⟩ := MX_ins32 (t := rTn (q 1) (q 2) (q 3)) hm1 (off_nat hok h3 i (j := j) (by omega)).2 ⟨by omega, by omega⟩
          rw [e1, e2, hp_hp]
          refine inc3 (nI (i + 1)) dX2_raiseOff_55 (nI_1 _) (by decide) rfl ?_
          refine xt_goto 20 dX2_raiseOff_58 rfl ?_
          exact ihe (i + 1) (by omega) _ _ (MX_congr (fun x t => SQ_ins (by omega) ⟨by omega, by omega⟩ x t) hm2)
      refine il2 dX2_raiseOff_10 ?_
      refine al0 dX2_raiseOff_11 ?_
      refine g_X2_37 dX2_raiseOff_12 (hp_nt (by omega) hp0) ?_
      refine xt_eqv (nI (rTn (q 1) (q 2) (q 3))) hTn ?_
      refine xt_icmp_gt 67 dX2_raiseOff_15 rfl (fun q => absurd q (nI_nlt (by omega) (by omega))) (fun _ => ?_)
      refine xt_iconst (0) dX2_raiseOff_18 rfl ?_
      refine is3 dX2_raiseOff_19 (by decide) rfl ?_
      exact li 3 0 rfl _ _ hm1
  refine al0 dX2_raiseOff_0 ?_
  refine s_X2_52 dX2_raiseOff_1 (cn_X2_isArc hp0) hp0 ⟨lb rfl, lb rfl, lb rfl, lb rfl⟩ ?_
  refine xt_if_eq 8 dX2_raiseOff_4 rfl (fun _ => ?_) (fun q => absurd (by rw [isA_ok hok, if_neg h3]) q)
  refine xt_iconst (1) dX2_raiseOff_8 rfl ?_
  refine is2 dX2_raiseOff_9 (by decide) rfl ?_
  refine xt_heq (hp_id h hf).symm ?_
  exact lp (rTn (q 1) (q 2) (q 3)) 1 (by omega) (by omega) _ _ _ (MX_congr (fun x t => SQ_0 x t) hm)
theorem cr_X2_raiseOff {h : ax_H} {n : Nat} {p fp : Nat} {q : Nat → Int32} {a b : Nat} {S : Nat → Nat → Prop} (hp0 : h p = some (ePc q)) (hf : h fp = some (eFr (nI a) (nI b))) (hne : fp ≠ p) (hm : MX S a b) (hok : okP (q 0) (q 1) (q 2) (q 3)) : ax_C yX2_raiseOff cX2_raiseOff 4 none 2 0 0 [.ref p, .ref fp] h n (kP (fun h2 => ∃ a2 b2, h2 = hp h fp (eFr (nI a2) (nI b2)) ∧ MX (fun x t => S x t ∨ SP (q 0) (q 1) (q 2) (q 3) x t) a2 b2) n) := by
  by_cases h3 : 3 ≤ q 0
  · exact cr_X2_raiseOff_a hp0 hf hne hm hok h3
  · exact cr_X2_raiseOff_n hp0 hf hne hm hok h3
/-- as SQ, axis by axis -/
def SV (S : Nat → Nat → Prop) (kd a b c : Int32) (i j : Nat) (x t : Nat) : Prop := S x t ∨ ∃ i2 j2, i2 < 3 ∧ 1 ≤ j2 ∧ j2 ≤ rTn a b c ∧ (i2 < i ∨ (i2 = i ∧ j2 < j)) ∧ x = oN kd a b c i2 j2 ∧ t = rTn a b c
theorem SV_ins {S : Nat → Nat → Prop} {kd a b c : Int32} {j i : Nat} (hi : i < 3) (hj : 1 ≤ j ∧ j ≤ rTn a b c) (x t : Nat) : SV S kd a b c i (j + 1) x t ↔ insF (SV S kd a b c i j) (oN kd a b c i j) (rTn a b c) x t := by
  unfold SV insF
  constructor
  · rintro (h | ⟨i2, j2, h1, h2, h3, h4, h5, h6⟩)
    · exact Or.inl (Or.inl h)
    · by_cases e : j2 = j ∧ i2 = i
      · obtain ⟨rfl, rfl⟩ := e; exact Or.inr ⟨h5, h6⟩
      · exact Or.inl (Or.inr ⟨i2, j2, h1, h2, h3, by omega, h5, h6⟩)
  · rintro ((h | ⟨i2, j2, h1, h2, h3, h4, h5, h6⟩) | ⟨h5, h6⟩)
    · exact Or.inl h
    · exact Or.inr ⟨i2, j2, h1, h2, h3, by omega, h5, h6⟩
    · exact Or.inr ⟨i, j, hi, hj.1, hj.2, by omega, h5, h6⟩
theorem SV_nx {S : Nat → Nat → Prop} {kd a b c : Int32} {i j : Nat} (hj : j = rTn a b c + 1) (x t : Nat) : SV S kd a b c (i + 1) 1 x t ↔ SV S kd a b c i j x t := by
  unfold SV
  constructor
  · rintro (h | ⟨i2, j2, h1, h2, h3, h4, h5, h6⟩)
    · exact Or.inl h
    · exact Or.inr ⟨i2, j2, h1, h2, h3, by omega, h5, h6⟩
  · rintro (h | ⟨i2, j2, h1, h2, h3, h4, h5, h6⟩)
    · exact Or.inl h
    · exact Or.inr ⟨i2, j2, h1, h2, h3, by omega, h5, h6⟩
theorem SV_all {S : Nat → Nat → Prop} {kd a b c : Int32} (h3 : ¬ 3 ≤ kd) (x t : Nat) : (S x t ∨ SP kd a b c x t) ↔ SV S kd a b c 3 1 x t := by
  unfold SV SP
  constructor
  · rintro (h | ⟨-, i, j2, h1, h2, h4, h5, h6⟩)
    · exact Or.inl h
    · exact Or.inr ⟨i, j2, h1, h2, h4, by omega, h5, h6⟩
  · rintro (h | ⟨i2, j2, h1, h2, h4, h5, h6, h7⟩)
    · exact Or.inl h
    · exact Or.inr ⟨h3, i2, j2, h1, h2, h4, h6, h7⟩
theorem SV_0 {S : Nat → Nat → Prop} {kd a b c : Int32} (x t : Nat) : SV S kd a b c 0 1 x t ↔ S x t := by
  unfold SV
  constructor
  · rintro (h | ⟨i2, j2, h1, h2, h4, h5, h6, h7⟩)
    · exact h
    · omega
  · exact Or.inl
theorem wI_at (r : Nat → Int32) (c i : Nat) (hi : i < 3) : r (c + (i + 1)) = wI (r (c + 1)) (r (c + 2)) (r (c + 3)) i := by
  unfold wI
  rcases (show i = 0 ∨ i = 1 ∨ i = 2 by omega) with rfl | rfl | rfl
  · rw [if_pos rfl]
  · rw [if_neg (by omega), if_pos rfl]
  · rw [if_neg (by omega), if_neg (by omega)]
theorem ii (X : Prop) [Decidable X] (A B : Int32) : (if (if X then (0 : Int32) else 1) = 0 then A else B) = if X then A else B := by
  by_cases h : X
  · simp [h]
  · simp [h]
theorem off_r {kd a b c : Int32} (h : okP kd a b c) (h3 : ¬ 3 ≤ kd) {i j : Nat} (hj : j ≤ rTn a b c) {w : Int32} (hw : w = wI a b c i) : rSz (rGone kd w (nI (rTn a b c)) (nI j) * nI (rTn a b c) - nI j * w) = nI (oN kd a b c i j) := by
  obtain ⟨-, -, -, -, t3⟩ := wI_int h h3 i
  rw [← (off_nat h h3 i hj).1, hw, ← t3]
  rfl
set_option maxHeartbeats 400000 in
set_option maxRecDepth 100000 in
theorem cr_X8_offBy {h : ax_H} {n : Nat} {M : Nat} {un iu td aT nu : Int32} {tp mv rd ms mn la : Nat → Int32} {W : Nat → Nat → Int32} {it tk : Nat → Int64} {S : Nat → Nat → Prop} {a b : Nat} (c : Nat) (hc : c + 3 < 61) (hm : MX S a b) (hok : okP (W 0 c) (W 0 (c + 1)) (W 0 (c + 2)) (W 0 (c + 3))) (h3 : ¬ 3 ≤ W 0 c) : ax_C yX8_offBy cX8_offBy 8 none 2 0 0 [.ref M, .int (nI c)] (mU h M un iu td aT nu (nI a) (nI b) (jn W) tp mv rd ms mn la it tk) n (kP (fun h2 => ∃ a2 b2, h2 = (mU h M un iu td aT nu (nI a2) (nI b2) (jn W) tp mv rd ms mn la it tk) ∧ MX (fun x t => S x t ∨ SP (W 0 c) (W 0 (c + 1)) (W 0 (c + 2)) (W 0 (c + 3)) x t) a2 b2) n) := by
  refine ax_C.go RX8 "offBy" [some (.ref M), some (.int (nI c)), none, none, none, none, none, none] rfl rfl pn_X8 (lb rfl) rfl (fun l G cy bs => ?_)
  have hT := wI_int hok h3 0
  have ht : ¬ 2 * nI (rTn (W 0 (c + 1)) (W 0 (c + 2)) (W 0 (c + 3))) = 0 := by
    rw [show (2 : Int32) = nI 2 from rfl, pk_mul]; exact nI_ne0 (by omega) (by omega)
  have lp : ∀ (d i : Nat), i + d = 3 → ∀ (a1 b1 : Nat) (x4 x5 x6 x7 : Option Value), MX (SV S (W 0 c) (W 0 (c + 1)) (W 0 (c + 2)) (W 0 (c + 3)) i 1) a1 b1 → ax_T l G cy bs (ax_rm 2 0 0) RX8 "offBy" cX8_offBy 8 none (kP (fun h2 => ∃ a2 b2, h2 = (mU h M un iu td aT nu (nI a2) (nI b2) (jn W) tp mv rd ms mn la it tk) ∧ MX (fun x t => S x t ∨ SP (W 0 c) (W 0 (c + 1)) (W 0 (c + 2)) (W 0 (c + 3)) x t) a2 b2) n) 0 0 30 [some (.ref M), some (.int (nI c)), some (.int (nI (rTn (W 0 (c + 1)) (W 0 (c + 2)) (W 0 (c + 3))))), some (.int (nI (i + 1))), x4, x5, x6, x7] [] (mU h M un iu td aT nu (nI a1) (nI b1) (jn W) tp mv rd ms mn la it tk) n 0 0 := by
    intro d
    induction d with
    | zero =>
      intro i hi a1 b1 x4 x5 x6 x7 hm1
      obtain rfl : i = 3 := by omega
      refine il3 dX8_offBy_30 ?_
      refine xt_iconst (4) dX8_offBy_31 rfl ?_
      refine xt_icmp_ge 151 dX8_offBy_32 rfl (fun _ => ?_) (fun q => absurd (by decide) q)
      exact xt_ret dX8_offBy_151 rfl (lb rfl) (lb rfl) ⟨rfl, ⟨a1, b1, rfl, MX_congr (fun x t => SV_all h3 x t) hm1⟩, rfl⟩
    | succ d ih =>
      intro i hi a1 b1 x4 x5 x6 x7 hm1
      have li : ∀ (wy : Int32), wy = W 0 (c + (i + 1)) → ∀ (e j : Nat), j + e = rTn (W 0 (c + 1)) (W 0 (c + 2)) (W 0 (c + 3)) + 1 → 1 ≤ j → ∀ (a1 b1 : Nat) (x6 x7 : Option Value), MX (SV S (W 0 c) (W 0 (c + 1)) (W 0 (c + 2)) (W 0 (c + 3)) i j) a1 b1 → ax_T l G cy bs (ax_rm 2 0 0) RX8 "offBy" cX8_offBy 8 none (kP (fun h2 => ∃ a2 b2, h2 = (mU h M un iu td aT nu (nI a2) (nI b2) (jn W) tp mv rd ms mn la it tk) ∧ MX (fun x t => S x t ∨ SP (W 0 c) (W 0 (c + 1)) (W 0 (c + 2)) (W 0 (c + 3)) x t) a2 b2) n) 0 0 48 [some (.ref M), some (.int (nI c)), some (.int (nI (rTn (W 0 (c + 1)) (W 0 (c + 2)) (W 0 (c + 3))))), some (.int (nI (i + 1))), some (.int wy), some (.int (nI j)), x6, x7] [] (mU h M un iu td aT nu (nI a1) (nI b1) (jn W) tp mv rd ms mn la it tk) n 0 0 := by
        intro wy hwy e
        induction e with
        | zero =>
          intro j hj hj1 a1 b1 x6 x7 hm1
          refine il5 dX8_offBy_48 ?_
          refine il2 dX8_offBy_50 ?_
          refine xt_icmp_gt 145 dX8_offBy_51 rfl (fun _ => ?_) (fun q => absurd (nI_lt (by omega) (by omega)) q)
          refine inc3 (nI (i + 1 + 1)) dX8_offBy_145 (nI_1 _) (by decide) rfl ?_
          refine xt_goto 30 dX8_offBy_148 rfl ?_
          exact ih (i + 1) (by omega) _ _ _ _ _ _ (MX_congr (fun x t => SV_nx (by omega) x t) hm1)
        | succ e ihe =>
          intro j hj hj1 a1 b1 x6 x7 hm1
          refine il5 dX8_offBy_48 ?_
          refine il2 dX8_offBy_50 ?_
          refine xt_icmp_gt 145 dX8_offBy_51 rfl (fun q => absurd q (nI_nlt (by omega) (by omega))) (fun _ => ?_)
          refine al0 dX8_offBy_54 ?_
          refine g_X8_7 dX8_offBy_55 mU_0 ?_
          refine il1 dX8_offBy_58 ?_
          refine xt_iald (c) mU_1 (by omega) rfl (by decide) dX8_offBy_59 ?_
          refine xt_top (congrArg Value.int (jnw (q := 0) (c := c) (by omega) (by omega))) ?_
          refine il4 dX8_offBy_60 ?_
          refine il2 dX8_offBy_62 ?_
          refine il5 dX8_offBy_63 ?_
          refine s_X8_83 dX8_offBy_65 (cn_X8_gone _ _ _ _ ht) ⟨lb rfl, lb rfl, lb rfl, lb rfl⟩ ?_
          refine il2 dX8_offBy_68 ?_
          refine xt_imul dX8_offBy_69 ?_
          refine il5 dX8_offBy_70 ?_
          refine il4 dX8_offBy_72 ?_
          refine xt_imul dX8_offBy_74 ?_
          refine xt_isub dX8_offBy_75 ?_
          refine s_X8_65 dX8_offBy_76 (cn_X8_size _) ⟨lb rfl, lb rfl, lb rfl, lb rfl⟩ ?_
          refine xt_eqv (nI (oN (W 0 c) (W 0 (c + 1)) (W 0 (c + 2)) (W 0 (c + 3)) i j)) (off_r hok h3 (by omega) (hwy.trans (wI_at (W 0) c i (by omega)))) ?_
          refine is6 dX8_offBy_79 (by decide) rfl ?_
          refine il6 dX8_offBy_81 ?_
          refine al0 dX8_offBy_83 ?_
          refine g_X8_183 dX8_offBy_84 mU_0 ?_
          refine xt_imul dX8_offBy_87 ?_
          refine al0 dX8_offBy_88 ?_
          refine g_X8_186 dX8_offBy_89 mU_0 ?_
          refine il2 dX8_offBy_92 ?_
          refine xt_imul dX8_offBy_93 ?_
          apply xj_icmp_le 101 dX8_offBy_94 rfl
          · intro k94
            refine ⟨fun c94 => ?_, fun c94 => ?_⟩
            · refine xt_iconst (0) dX8_offBy_101 rfl ?_
              exact xt_it1 k94 c94
            · refine xt_iconst (1) dX8_offBy_97 rfl ?_
              refine xt_goto 102 dX8_offBy_98 rfl ?_
              exact xt_it2 k94 c94
          · skip
            refine xt_nm (fun iz e_iz => ?_)
            refine is7 dX8_offBy_102 (by decide) rfl ?_
            refine al0 dX8_offBy_104 ?_
            refine il7 dX8_offBy_105 ?_
            apply xj_if_eq 115 dX8_offBy_107 rfl
            · intro k107
              refine ⟨fun c107 => ?_, fun c107 => ?_⟩
              · refine al0 dX8_offBy_115 ?_
                refine g_X8_186 dX8_offBy_116 mU_0 ?_
                exact xt_it1 k107 c107
              · refine il6 dX8_offBy_110 ?_
                refine xt_goto 119 dX8_offBy_112 rfl ?_
                exact xt_it2 k107 c107
            · skip
              refine xt_nm (fun av e_av => ?_)
              refine p_X8_186 dX8_offBy_119 mU_0 ?_
              refine xt_heq mU_p0 ?_
              refine al0 dX8_offBy_122 ?_
              refine il7 dX8_offBy_123 ?_
              apply xj_if_eq 132 dX8_offBy_125 rfl
              · intro k125
                refine ⟨fun c125 => ?_, fun c125 => ?_⟩
                · refine al0 dX8_offBy_132 ?_
                  refine g_X8_183 dX8_offBy_133 mU_0 ?_
                  exact xt_it1 k125 c125
                · refine il2 dX8_offBy_128 ?_
                  refine xt_goto 136 dX8_offBy_129 rfl ?_
                  exact xt_it2 k125 c125
              · skip
                refine xt_nm (fun bv e_bv => ?_)
                refine p_X8_183 dX8_offBy_136 mU_0 ?_
                refine xt_heq mU_p0 ?_
                refine inc5 (nI (j + 1)) dX8_offBy_139 (nI_1 _) (by decide) rfl ?_
                refine xt_goto 48 dX8_offBy_142 rfl ?_
                obtain ⟨a2, b2, hm2, e1, e2⟩ := MX_ins32 (t := rTn (W 0 (c + 1)) (W 0 (c + 2)) (W 0 (c + 3))) hm1 (off_nat hok h3 i (j := j) (by omega)).2 ⟨by omega, by omega⟩
                rw [e_iz, ii, e1] at e_av
                rw [e_iz, ii, e2] at e_bv
                subst e_av
                subst e_bv
                exact ihe (j + 1) (by omega) (by omega) _ _ _ _ (MX_congr (fun x t => SV_ins (by omega) ⟨by omega, by omega⟩ x t) hm2)
      refine il3 dX8_offBy_30 ?_
      refine xt_iconst (4) dX8_offBy_31 rfl ?_
      refine xt_icmp_ge 151 dX8_offBy_32 rfl (fun q => absurd q (nI_ge (a := i + 1) (b := 4) (by omega) (by decide))) (fun _ => ?_)
      refine al0 dX8_offBy_35 ?_
      refine g_X8_7 dX8_offBy_36 mU_0 ?_
      refine il1 dX8_offBy_39 ?_
      refine il3 dX8_offBy_40 ?_
      refine xt_iadd dX8_offBy_41 ?_
      refine xt_iald (c + (i + 1)) mU_1 (by omega) (ne_add (a := c) (b := i + 1) rfl rfl) (by decide) dX8_offBy_42 ?_
      refine xt_top (congrArg Value.int (jnw (q := 0) (c := c + (i + 1)) (by omega) (by omega))) ?_
      refine is4 dX8_offBy_43 (by decide) rfl ?_
      refine xt_iconst (1) dX8_offBy_45 rfl ?_
      refine is5 dX8_offBy_46 (by decide) rfl ?_
      exact li _ rfl (rTn (W 0 (c + 1)) (W 0 (c + 2)) (W 0 (c + 3))) 1 (by omega) (by omega) _ _ _ _ hm1
  refine al0 dX8_offBy_0 ?_
  refine g_X8_7 dX8_offBy_1 mU_0 ?_
  refine il1 dX8_offBy_4 ?_
  refine xt_iconst (1) dX8_offBy_5 rfl ?_
  refine xt_iadd dX8_offBy_6 ?_
  refine xt_iald (c + 1) mU_1 (by omega) (ne_add (a := c) (b := 1) rfl rfl) (by decide) dX8_offBy_7 ?_
  refine xt_top (congrArg Value.int (jnw (q := 0) (c := c + 1) (by omega) (by omega))) ?_
  refine al0 dX8_offBy_8 ?_
  refine g_X8_7 dX8_offBy_9 mU_0 ?_
  refine il1 dX8_offBy_12 ?_
  refine xt_iconst (2) dX8_offBy_13 rfl ?_
  refine xt_iadd dX8_offBy_14 ?_
  refine xt_iald (c + 2) mU_1 (by omega) (ne_add (a := c) (b := 2) rfl rfl) (by decide) dX8_offBy_15 ?_
  refine xt_top (congrArg Value.int (jnw (q := 0) (c := c + 2) (by omega) (by omega))) ?_
  refine al0 dX8_offBy_16 ?_
  refine g_X8_7 dX8_offBy_17 mU_0 ?_
  refine il1 dX8_offBy_20 ?_
  refine xt_iconst (3) dX8_offBy_21 rfl ?_
  refine xt_iadd dX8_offBy_22 ?_
  refine xt_iald (c + 3) mU_1 (by omega) (ne_add (a := c) (b := 3) rfl rfl) (by decide) dX8_offBy_23 ?_
  refine xt_top (congrArg Value.int (jnw (q := 0) (c := c + 3) (by omega) (by omega))) ?_
  refine s_X8_69 dX8_offBy_24 (cn_X8_turnsOf _ _ _) ⟨lb rfl, lb rfl, lb rfl, lb rfl⟩ ?_
  refine xt_eqv (nI (rTn (W 0 (c + 1)) (W 0 (c + 2)) (W 0 (c + 3)))) hT.2.2.2.2 ?_
  refine is2 dX8_offBy_27 (by decide) rfl ?_
  refine xt_iconst (1) dX8_offBy_28 rfl ?_
  refine is3 dX8_offBy_29 (by decide) rfl ?_
  exact lp 3 0 rfl _ _ _ _ _ _ (MX_congr (fun x t => SV_0 x t) hm)
set_option maxHeartbeats 400000 in
set_option maxRecDepth 100000 in
theorem cn_X8_common {h : ax_H} {n : Nat}  (a b : Nat) (ha : a < 2 ^ 31) (hb : b < 2 ^ 31) : ax_C yX8_common cX8_common 10 (some .long) 0 0 0 [.long (lN a), .long (lN b)] h n (kl (lN (Nat.gcd b a)) h n) := by
  refine ax_C.go RX8 "common" [some (.long (lN a)), none, some (.long (lN b)), none, none, none, none, none, none, none] rfl rfl pn_X8 (lb rfl) rfl (fun l G cy bs => ?_)
  have lp : ∀ (y x : Nat) (z1 z2 : Option Value), y < 2 ^ 31 → x < 2 ^ 31 → Nat.gcd y x = Nat.gcd b a → ax_T l G cy bs (ax_rm 0 0 0) RX8 "common" cX8_common 10 (some .long) (kl (lN (Nat.gcd b a)) h n) 0 0 6 [some (.long (lN a)), none, some (.long (lN b)), none, some (.long (lN x)), none, some (.long (lN y)), none, z1, z2] [] h n 0 0 := by
    intro y
    induction y using Nat.strongRecOn with
    | ind y ih =>
      intro x z1 z2 hy hx he
      by_cases hz : y = 0
      · refine ll6 dX8_common_6 ?_
        refine xt_lconst (0) dX8_common_8 rfl ?_
        refine xt_lcmp dX8_common_9 ?_
        refine xt_if_eq 31 dX8_common_10 rfl (fun _ => ?_) (fun q => absurd ((lc_eq _ _).mpr (by rw [hz]; rfl)) q)
        refine ll4 dX8_common_31 ?_
        exact xt_lret dX8_common_33 rfl (lb rfl) (lb rfl) ⟨by rw [← he, hz, Nat.gcd_zero_left], rfl, rfl⟩
      · refine ll6 dX8_common_6 ?_
        refine xt_lconst (0) dX8_common_8 rfl ?_
        refine xt_lcmp dX8_common_9 ?_
        refine xt_if_eq 31 dX8_common_10 rfl (fun q => absurd q (fun e => hz ((lN_eq (by omega) (by omega)).mp ((lc_eq _ _).mp e)))) (fun _ => ?_)
        refine ll4 dX8_common_13 ?_
        refine ll6 dX8_common_15 ?_
        refine xt_lrem dX8_common_17 (fun e => hz ((lN_eq (by omega) (by omega)).mp e)) ?_
        refine ls8 dX8_common_18 (by decide) rfl ?_
        refine ll6 dX8_common_20 ?_
        refine ls4 dX8_common_22 (by decide) rfl ?_
        refine ll8 dX8_common_24 ?_
        refine ls6 dX8_common_26 (by decide) rfl ?_
        refine xt_goto 6 dX8_common_28 rfl ?_
        rw [lN_rem hx hy]
        exact ih (x % y) (Nat.mod_lt _ (by omega)) y _ _ (Nat.lt_trans (Nat.mod_lt _ (by omega)) hy) hy (by rw [← he, ← Nat.gcd_rec])
  refine ll0 dX8_common_0 ?_
  refine ls4 dX8_common_1 (by decide) rfl ?_
  refine ll2 dX8_common_3 ?_
  refine ls6 dX8_common_4 (by decide) rfl ?_
  exact lp b a _ _ hb ha rfl
set_option maxHeartbeats 400000 in
set_option maxRecDepth 100000 in
theorem cn_X8_off_b {h : ax_H} {n : Nat} {M : Nat} {un iu td aT nu ab be : Int32} {tp mv rd ms mn la : Nat → Int32} {W : Nat → Nat → Int32} {it tk : Nat → Int64} (x : Int32) (hx : ¬ (0 ≤ x ∧ x ≤ 1)) : ax_C yX8_off cX8_off 3 (some .int) 3 0 0 [.ref M, .int x] (mU h M un iu td aT nu ab be (jn W) tp mv rd ms mn la it tk) n (ki ((-1000001)) (mU h M un iu td aT nu ab be (jn W) tp mv rd ms mn la it tk) n) := by
  refine ax_C.go RX8 "off" [some (.ref M), some (.int x), none] rfl rfl pn_X8 (lb rfl) rfl (fun l G cy bs => ?_)
  refine il1 dX8_off_0 ?_
  refine xt_i2l dX8_off_1 ?_
  refine xt_lconst (0) dX8_off_2 rfl ?_
  refine xt_lconst (1) dX8_off_3 rfl ?_
  refine s_X8_51 dX8_off_4 (cn_X8_inI _ (0) (1) rfl rfl) ⟨lb rfl, lb rfl, lb rfl, lb rfl⟩ ?_
  refine xt_if_ne 13 dX8_off_7 rfl (fun q => absurd (fl0 hx) q) (fun _ => ?_)
  refine k_X8_112 dX8_off_10 ?_
  exact xt_iret dX8_off_12 rfl (lb rfl) (lb rfl) ⟨rfl, rfl, rfl⟩
/-- the fractions of the first k that wait, and of what is NOW -/
def SB (r : Nat → Int32) (k : Nat) (x t : Nat) : Prop := (0 ≤ r 5 ∧ SP (r 5) (r 6) (r 7) (r 8) x t) ∨ ∃ i, i < k ∧ SP (r (13 + 4 * i)) (r (13 + 4 * i + 1)) (r (13 + 4 * i + 2)) (r (13 + 4 * i + 3)) x t
theorem SB_s {r : Nat → Int32} {k : Nat} (x t : Nat) : SB r (k + 1) x t ↔ (SB r k x t ∨ SP (r (13 + 4 * k)) (r (13 + 4 * k + 1)) (r (13 + 4 * k + 2)) (r (13 + 4 * k + 3)) x t) := by
  unfold SB
  constructor
  · rintro (h | ⟨i, hi, h⟩)
    · exact Or.inl (Or.inl h)
    · by_cases e : i = k
      · subst e; exact Or.inr h
      · exact Or.inl (Or.inr ⟨i, by omega, h⟩)
  · rintro ((h | ⟨i, hi, h⟩) | h)
    · exact Or.inl h
    · exact Or.inr ⟨i, by omega, h⟩
    · exact Or.inr ⟨k, by omega, h⟩
theorem SB_0 {r : Nat → Int32} (x t : Nat) : SB r 0 x t ↔ (False ∨ (0 ≤ r 5 ∧ SP (r 5) (r 6) (r 7) (r 8) x t)) := by
  unfold SB
  constructor
  · rintro (h | ⟨i, hi, h⟩)
    · exact Or.inr h
    · omega
  · rintro (h | h)
    · exact h.elim
    · exact Or.inl h
theorem of_fl0 {P : Prop} [Decidable P] (h : (if P then (1 : Int32) else 0) = 0) : ¬ P := fun p => by rw [if_pos p] at h; exact absurd h (by decide)
theorem of_fl1 {P : Prop} [Decidable P] (h : ¬ (if P then (1 : Int32) else 0) = 0) : P := by
  by_cases p : P
  · exact p
  · exact absurd (if_neg p) h
theorem le2 {k : Int32} (h : ¬ 3 ≤ k) : k ≤ 2 := by rw [fb_le, ti_2]; rw [fb_le, ti_3] at h; omega
theorem now_ok {r : Nat → Int32} {m : Nat} (h : RI r m) (h0 : 0 ≤ r 5) : okP (r 5) (r 6) (r 7) (r 8) := by
  rcases h.2 with e | ⟨d, e⟩
  · exact absurd h0 (neg_m1 e)
  · exact e.1
set_option maxHeartbeats 400000 in
set_option maxRecDepth 100000 in
theorem cr_X8_off {h : ax_H} {n : Nat} {M : Nat} {un iu td aT nu ab be : Int32} {tp mv rd ms mn la : Nat → Int32} {W : Nat → Nat → Int32} {it tk : Nat → Int64} (m : Nat) (hRI0 : RI (W 0) m) (x rr : Int32) (hx : 0 ≤ x ∧ x ≤ 1) (hrr : ∀ a b, MX (SB (W 0) m) a b → lw a b x = rr) : ax_C yX8_off cX8_off 3 (some .int) 3 0 0 [.ref M, .int x] (mU h M un iu td aT nu ab be (jn W) tp mv rd ms mn la it tk) n (kE rr (MSt h M (un) (iu) (td) (W) (tp) (mn) (la) (it)) n) := by
  refine ax_C.go RX8 "off" [some (.ref M), some (.int x), none] rfl rfl pn_X8 (lb rfl) rfl (fun l G cy bs => ?_)
  have hm12 := hRI0.1.2.1
  have lp : ∀ (d k : Nat), k + d = m → ∀ (a1 b1 : Nat), MX (SB (W 0) k) a1 b1 → ax_T l G cy bs (ax_rm 3 0 0) RX8 "off" cX8_off 3 (some .int) (kE rr (MSt h M (un) (iu) (td) (W) (tp) (mn) (la) (it)) n) 0 0 47 [some (.ref M), some (.int x), some (.int (nI k))] [] (mU h M un iu td aT nu (nI a1) (nI b1) (jn W) tp mv rd ms mn la it tk) n 0 0 := by
    intro d
    induction d with
    | zero =>
      intro k hk a1 b1 hm1
      obtain rfl : k = m := by omega
      have hg : 0 < Nat.gcd b1 a1 := Nat.gcd_pos_of_pos_left _ hm1.1
      have hg2 : Nat.gcd b1 a1 ≤ b1 := Nat.gcd_le_left _ hm1.1
      have hb1 := hm1.2.1
      have ha1 := hm1.2.2.1
      refine il2 dX8_off_47 ?_
      refine al0 dX8_off_48 ?_
      refine g_X8_7 dX8_off_49 mU_0 ?_
      refine xt_bipush (12) dX8_off_52 rfl ?_
      refine xt_iald (12) mU_1 (by omega) rfl (by decide) dX8_off_54 ?_
      refine xt_top (congrArg Value.int (jnw (q := 0) (c := 12) (by omega) (by omega))) ?_
      refine xt_eqv (nI (k)) hRI0.1.1 ?_
      refine xt_icmp_ge 89 dX8_off_55 rfl (fun _ => ?_) (fun q => absurd (nI_le (Nat.le_refl _) (by omega)) q)
      refine al0 dX8_off_89 ?_
      refine g_X8_186 dX8_off_90 mU_0 ?_
      refine xt_i2l dX8_off_93 ?_
      refine al0 dX8_off_94 ?_
      refine g_X8_183 dX8_off_95 mU_0 ?_
      refine xt_i2l dX8_off_98 ?_
      rw [nI_l (n := a1) (by omega), nI_l (n := b1) (by omega)]
      refine s_X8_192 dX8_off_99 (cn_X8_common a1 b1 (by omega) (by omega)) ⟨lb rfl, lb rfl, lb rfl, lb rfl⟩ ?_
      refine xt_l2i dX8_off_102 ?_
      refine xt_eqv (nI (Nat.gcd b1 a1)) (lN_i _) ?_
      refine is2 dX8_off_103 (by decide) rfl ?_
      refine il1 dX8_off_104 ?_
      apply xj_if_ne 117 dX8_off_105 rfl
      · intro k105
        refine ⟨fun c105 => ?_, fun c105 => ?_⟩
        · refine al0 dX8_off_117 ?_
          refine g_X8_183 dX8_off_118 mU_0 ?_
          refine il2 dX8_off_121 ?_
          refine xt_idiv dX8_off_122 (nI_ne0 hg (by omega)) ?_
          exact xt_in1 k105 c105
        · refine al0 dX8_off_108 ?_
          refine g_X8_186 dX8_off_109 mU_0 ?_
          refine il2 dX8_off_112 ?_
          refine xt_idiv dX8_off_113 (nI_ne0 hg (by omega)) ?_
          refine xt_goto 123 dX8_off_114 rfl ?_
          exact xt_in2 k105 c105
      · skip
        exact xt_iret dX8_off_123 rfl (lb rfl) (lb rfl) ⟨by rw [← hrr a1 b1 hm1]; unfold lw; by_cases hx0 : x = 0 <;> simp only [hx0, if_true, if_false] <;> rw [pk_div (by omega) hg (by omega)], MSt_of, rfl⟩
    | succ d ih =>
      intro k hk a1 b1 hm1
      refine il2 dX8_off_47 ?_
      refine al0 dX8_off_48 ?_
      refine g_X8_7 dX8_off_49 mU_0 ?_
      refine xt_bipush (12) dX8_off_52 rfl ?_
      refine xt_iald (12) mU_1 (by omega) rfl (by decide) dX8_off_54 ?_
      refine xt_top (congrArg Value.int (jnw (q := 0) (c := 12) (by omega) (by omega))) ?_
      refine xt_eqv (nI (m)) hRI0.1.1 ?_
      refine xt_icmp_ge 89 dX8_off_55 rfl (fun q => absurd q (nI_ge (by omega) (by omega))) (fun _ => ?_)
      refine al0 dX8_off_58 ?_
      refine g_X8_7 dX8_off_59 mU_0 ?_
      refine xt_bipush (13) dX8_off_62 rfl ?_
      refine xt_iconst (4) dX8_off_64 rfl ?_
      refine il2 dX8_off_65 ?_
      refine xt_imul dX8_off_66 ?_
      refine xt_iadd dX8_off_67 ?_
      refine xt_iald (13 + (4) * (k)) mU_1 (by omega) (ne_add (a := 13) (b := (4) * (k)) rfl (ne_mul (a := 4) (b := k) rfl rfl)) (by decide) dX8_off_68 ?_
      refine xt_top (congrArg Value.int (jnw (q := 0) (c := 13 + 4 * k) (by omega) (by omega))) ?_
      refine xt_iconst (3) dX8_off_69 rfl ?_
      refine xt_icmp_ge 83 dX8_off_70 rfl (fun c70 => ?_) (fun c70 => ?_)
      · refine inc2 (nI (k + 1)) dX8_off_83 (nI_1 _) (by decide) rfl ?_
        refine xt_goto 47 dX8_off_86 rfl ?_
        exact ih (k + 1) (by omega) a1 b1 (MX_congr (fun x t => (SB_s x t).trans ⟨fun z => z.elim id (fun y => absurd c70 y.1), Or.inl⟩) hm1)
      · refine al0 dX8_off_73 ?_
        refine xt_bipush (13) dX8_off_74 rfl ?_
        refine xt_iconst (4) dX8_off_76 rfl ?_
        refine il2 dX8_off_77 ?_
        refine xt_imul dX8_off_78 ?_
        refine xt_iadd dX8_off_79 ?_
        refine xt_eqv (nI (13 + 4 * k)) ((ne_add (a := 13) (b := (4) * (k)) rfl (ne_mul (a := 4) (b := k) rfl rfl)).trans (congrArg nI (by omega))) ?_
        refine sP_X8_189 dX8_off_80 (cr_X8_offBy (13 + 4 * k) (by omega) hm1 (hRI0.1.2.2 k (by omega)) (c70)) mU_0 ⟨lb rfl, lb rfl, lb rfl, lb rfl⟩ ?_
        rintro h2 ⟨a2, b2, rfl, hm2⟩
        refine inc2 (nI (k + 1)) dX8_off_83 (nI_1 _) (by decide) rfl ?_
        refine xt_goto 47 dX8_off_86 rfl ?_
        exact ih (k + 1) (by omega) a2 b2 (MX_congr (fun x t => SB_s x t) hm2)
  refine il1 dX8_off_0 ?_
  refine xt_i2l dX8_off_1 ?_
  refine xt_lconst (0) dX8_off_2 rfl ?_
  refine xt_lconst (1) dX8_off_3 rfl ?_
  refine s_X8_51 dX8_off_4 (cn_X8_inI _ (0) (1) rfl rfl) ⟨lb rfl, lb rfl, lb rfl, lb rfl⟩ ?_
  refine xt_if_ne 13 dX8_off_7 rfl (fun _ => ?_) (fun q => absurd q (fl1 hx))
  refine al0 dX8_off_13 ?_
  refine xt_iconst (0) dX8_off_14 rfl ?_
  refine p_X8_186 dX8_off_15 mU_0 ?_
  refine xt_heq mU_p0 ?_
  refine al0 dX8_off_18 ?_
  refine xt_iconst (1) dX8_off_19 rfl ?_
  refine p_X8_183 dX8_off_20 mU_0 ?_
  refine xt_heq mU_p0 ?_
  refine al0 dX8_off_23 ?_
  refine g_X8_7 dX8_off_24 mU_0 ?_
  refine xt_iconst (5) dX8_off_27 rfl ?_
  refine xt_iald (5) mU_1 (by omega) rfl (by decide) dX8_off_28 ?_
  refine xt_top (congrArg Value.int (jnw (q := 0) (c := 5) (by omega) (by omega))) ?_
  refine xt_i2l dX8_off_29 ?_
  refine xt_lconst (0) dX8_off_30 rfl ?_
  refine k_X8_106 dX8_off_31 ?_
  refine s_X8_51 dX8_off_34 (cn_X8_inI _ (0) (2) rfl rfl) ⟨lb rfl, lb rfl, lb rfl, lb rfl⟩ ?_
  refine xt_if_eq 45 dX8_off_37 rfl (fun c37 => ?_) (fun c37 => ?_)
  · refine xt_iconst (0) dX8_off_45 rfl ?_
    refine is2 dX8_off_46 (by decide) rfl ?_
    exact lp m 0 (by omega) 0 1 (MX_congr (fun x t => (SB_0 x t).trans ⟨fun z => z.elim id (fun y => absurd ⟨y.1, le2 y.2.1⟩ (of_fl0 c37)), fun z => z.elim⟩) MX_0)
  · have hm1 := MX_0
    refine al0 dX8_off_40 ?_
    refine xt_iconst (5) dX8_off_41 rfl ?_
    refine sP_X8_189 dX8_off_42 (cr_X8_offBy (5) (by omega) hm1 (now_ok hRI0 (of_fl1 c37).1) (fun z => absurd (Int32.le_trans z (of_fl1 c37).2) (by decide))) mU_0 ⟨lb rfl, lb rfl, lb rfl, lb rfl⟩ ?_
    rintro h2 ⟨a2, b2, rfl, hm2⟩
    refine xt_iconst (0) dX8_off_45 rfl ?_
    refine is2 dX8_off_46 (by decide) rfl ?_
    exact lp m 0 (by omega) a2 b2 (MX_congr (fun x t => (SB_0 x t).trans ⟨fun z => z.elim (fun y => Or.inl y) (fun y => Or.inr y.2), fun z => z.elim (fun y => Or.inl y) (fun y => Or.inr ⟨(of_fl1 c37).1, y⟩)⟩) hm2)
