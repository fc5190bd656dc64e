/-- the reference's ten cells -/
def MF (h : ax_H) (M : Nat) (un iu td aT nu ab be : Int32) (w tp mv rd ms mn la : Nat → Int32) (it tk : Nat → Int64) : Prop := h M = some (eM M un iu td aT nu ab be) ∧ h (M + 1) = some (ax_I 915 w) ∧ h (M + 2) = some (ax_I 140 tp) ∧ h (M + 3) = some (ax_I 3 mv) ∧ h (M + 4) = some (ax_I 48 rd) ∧ h (M + 5) = some (ax_I 18 ms) ∧ h (M + 6) = some (ax_I 4 mn) ∧ h (M + 7) = some (ax_I 4 la) ∧ h (M + 8) = some (ax_L 96 it) ∧ h (M + 9) = some (ax_L 24 tk)
section MFS
variable {h : ax_H} {M : Nat} {un iu td aT nu ab be : Int32} {w tp mv rd ms mn la : Nat → Int32} {it tk : Nat → Int64}
theorem MF.of {h2 : ax_H} (e : h2 = mU h M un iu td aT nu ab be w tp mv rd ms mn la it tk) : MF h2 M un iu td aT nu ab be w tp mv rd ms mn la it tk := by
  subst e; exact ⟨mU_0, mU_1, mU_2, mU_3, mU_4, mU_5, mU_6, mU_7, mU_8, mU_9⟩
theorem MF.fr {h2 : ax_H} (hM : MF h M un iu td aT nu ab be w tp mv rd ms mn la it tk) (he : ∀ j, M ≤ j → j < M + 10 → h2 j = h j) : MF h2 M un iu td aT nu ab be w tp mv rd ms mn la it tk := by
  obtain ⟨a0, a1, a2, a3, a4, a5, a6, a7, a8, a9⟩ := hM
  exact ⟨by rw [he _ (by omega) (by omega)]; exact a0, by rw [he _ (by omega) (by omega)]; exact a1, by rw [he _ (by omega) (by omega)]; exact a2, by rw [he _ (by omega) (by omega)]; exact a3, by rw [he _ (by omega) (by omega)]; exact a4, by rw [he _ (by omega) (by omega)]; exact a5, by rw [he _ (by omega) (by omega)]; exact a6, by rw [he _ (by omega) (by omega)]; exact a7, by rw [he _ (by omega) (by omega)]; exact a8, by rw [he _ (by omega) (by omega)]; exact a9⟩
theorem MF.id (hM : MF h M un iu td aT nu ab be w tp mv rd ms mn la it tk) : h = mU h M un iu td aT nu ab be w tp mv rd ms mn la it tk := by
  obtain ⟨a0, a1, a2, a3, a4, a5, a6, a7, a8, a9⟩ := hM
  funext j
  by_cases hj : j < M ∨ M + 10 ≤ j
  · rw [mU_out hj]
  · rcases (show j = M ∨ j = M + 1 ∨ j = M + 2 ∨ j = M + 3 ∨ j = M + 4 ∨ j = M + 5 ∨ j = M + 6 ∨ j = M + 7 ∨ j = M + 8 ∨ j = M + 9 by omega) with rfl | rfl | rfl | rfl | rfl | rfl | rfl | rfl | rfl | rfl
    · rw [mU_0]; exact a0
    · rw [mU_1]; exact a1
    · rw [mU_2]; exact a2
    · rw [mU_3]; exact a3
    · rw [mU_4]; exact a4
    · rw [mU_5]; exact a5
    · rw [mU_6]; exact a6
    · rw [mU_7]; exact a7
    · rw [mU_8]; exact a8
    · rw [mU_9]; exact a9
end MFS
def w00 : Nat → Int32 := upd (upd (fun _ => 0) 4 1) 5 (-1)
def mn00 : Nat → Int32 := upd (upd (upd (upd (fun _ => 0) 0 (-1)) 1 (-1)) 2 (-1)) 3 (-1)
set_option maxHeartbeats 400000 in
set_option maxRecDepth 100000 in
theorem cn_X8_init {h : ax_H} {n : Nat}  (h0 : h 259 = some (.inr (8, [.null, .int 0, .int 0, .null, .int 0, .null, .int 0, .int 0, .null, .int 0, .int 0, .null, .null, .null, .null, .null]))) (hn : n = 260) : ax_C yX8_init cX8_init 1 none 1 9 1252 [.ref 259] h n (kP (fun h2 => MF h2 259 0 (-1) 0 0 0 0 0 w00 (fun _ => 0) (fun _ => 0) (fun _ => 0) (fun _ => 0) mn00 (fun _ => 0) (fun _ => 0) (fun _ => 0) ∧ ∀ j, j < 259 → h2 j = h j) 269) := by
  subst hn
  refine ax_C.go RX8 "<init>" [some (.ref 259)] rfl rfl pn_X8 (lb rfl) rfl (fun l G cy bs => ?_)
  refine al0 dX8_init_0 ?_
  refine s_X8_1 dX8_init_1 ⟨lb rfl, lb rfl⟩ ?_
  refine al0 dX8_init_4 ?_
  refine xt_sipush (915) dX8_init_5 rfl ?_
  refine na_I 915 dX8_init_8 rfl (by decide) ⟨lb rfl, lb rfl⟩ ?_
  refine p_X8_7 dX8_init_10 (hp_nt (by omega) h0) ?_
  refine al0 dX8_init_13 ?_
  refine xt_iconst (-1) dX8_init_14 rfl ?_
  refine p_X8_13 dX8_init_15 (hp_s _ _ _) ?_
  refine xt_eq (hp_hp _ _ _ _) ?_
  refine al0 dX8_init_18 ?_
  refine xt_sipush (140) dX8_init_19 rfl ?_
  refine na_I 140 dX8_init_22 rfl (by decide) ⟨lb rfl, lb rfl⟩ ?_
  refine p_X8_17 dX8_init_24 (hp_nt (by omega) (hp_s _ _ _)) ?_
  refine al0 dX8_init_27 ?_
  refine xt_iconst (3) dX8_init_28 rfl ?_
  refine na_I 3 dX8_init_29 rfl (by decide) ⟨lb rfl, lb rfl⟩ ?_
  refine p_X8_20 dX8_init_31 (hp_nt (by omega) (hp_s _ _ _)) ?_
  refine al0 dX8_init_34 ?_
  refine xt_bipush (48) dX8_init_35 rfl ?_
  refine na_I 48 dX8_init_37 rfl (by decide) ⟨lb rfl, lb rfl⟩ ?_
  refine p_X8_23 dX8_init_39 (hp_nt (by omega) (hp_s _ _ _)) ?_
  refine al0 dX8_init_42 ?_
  refine xt_bipush (18) dX8_init_43 rfl ?_
  refine na_I 18 dX8_init_45 rfl (by decide) ⟨lb rfl, lb rfl⟩ ?_
  refine p_X8_26 dX8_init_47 (hp_nt (by omega) (hp_s _ _ _)) ?_
  refine al0 dX8_init_50 ?_
  refine xt_iconst (4) dX8_init_51 rfl ?_
  refine na_I 4 dX8_init_52 rfl (by decide) ⟨lb rfl, lb rfl⟩ ?_
  refine xt_dup dX8_init_54 rfl ?_
  refine xt_iconst (0) dX8_init_55 rfl ?_
  refine xt_iconst (-1) dX8_init_56 rfl ?_
  refine xt_iast (0) (hp_s _ _ _) (by omega) rfl (by decide) dX8_init_57 ?_
  refine xt_eq (hp_hp _ _ _ _) ?_
  refine xt_dup dX8_init_58 rfl ?_
  refine xt_iconst (1) dX8_init_59 rfl ?_
  refine xt_iconst (-1) dX8_init_60 rfl ?_
  refine xt_iast (1) (hp_s _ _ _) (by omega) rfl (by decide) dX8_init_61 ?_
  refine xt_eq (hp_hp _ _ _ _) ?_
  refine xt_dup dX8_init_62 rfl ?_
  refine xt_iconst (2) dX8_init_63 rfl ?_
  refine xt_iconst (-1) dX8_init_64 rfl ?_
  refine xt_iast (2) (hp_s _ _ _) (by omega) rfl (by decide) dX8_init_65 ?_
  refine xt_eq (hp_hp _ _ _ _) ?_
  refine xt_dup dX8_init_66 rfl ?_
  refine xt_iconst (3) dX8_init_67 rfl ?_
  refine xt_iconst (-1) dX8_init_68 rfl ?_
  refine xt_iast (3) (hp_s _ _ _) (by omega) rfl (by decide) dX8_init_69 ?_
  refine xt_eq (hp_hp _ _ _ _) ?_
  refine p_X8_29 dX8_init_70 (hp_nt (by omega) (hp_s _ _ _)) ?_
  refine al0 dX8_init_73 ?_
  refine xt_iconst (4) dX8_init_74 rfl ?_
  refine na_I 4 dX8_init_75 rfl (by decide) ⟨lb rfl, lb rfl⟩ ?_
  refine p_X8_32 dX8_init_77 (hp_nt (by omega) (hp_s _ _ _)) ?_
  refine al0 dX8_init_80 ?_
  refine xt_bipush (96) dX8_init_81 rfl ?_
  refine na_L 96 dX8_init_83 rfl (by decide) ⟨lb rfl, lb rfl⟩ ?_
  refine p_X8_35 dX8_init_85 (hp_nt (by omega) (hp_s _ _ _)) ?_
  refine al0 dX8_init_88 ?_
  refine xt_bipush (24) dX8_init_89 rfl ?_
  refine na_L 24 dX8_init_91 rfl (by decide) ⟨lb rfl, lb rfl⟩ ?_
  refine p_X8_39 dX8_init_93 (hp_nt (by omega) (hp_s _ _ _)) ?_
  refine al0 dX8_init_96 ?_
  refine g_X8_7 dX8_init_97 (hp_s _ _ _) ?_
  refine xt_iconst (4) dX8_init_100 rfl ?_
  refine xt_iconst (1) dX8_init_101 rfl ?_
  refine xt_iast (4) (hp_nt (by omega) (hp_nt (by omega) (hp_nt (by omega) (hp_nt (by omega) (hp_nt (by omega) (hp_nt (by omega) (hp_nt (by omega) (hp_nt (by omega) (hp_nt (by omega) (hp_nt (by omega) (hp_nt (by omega) (hp_nt (by omega) (hp_nt (by omega) (hp_nt (by omega) (hp_nt (by omega) (hp_nt (by omega) (hp_nt (by omega) (hp_s _ _ _)))))))))))))))))) (by omega) rfl (by decide) dX8_init_102 ?_
  refine al0 dX8_init_103 ?_
  refine g_X8_7 dX8_init_104 (hp_nt (by omega) (hp_s _ _ _)) ?_
  refine xt_iconst (5) dX8_init_107 rfl ?_
  refine xt_iconst (-1) dX8_init_108 rfl ?_
  refine xt_iast (5) (hp_s _ _ _) (by omega) rfl (by decide) dX8_init_109 ?_
  refine xt_eq (hp_hp _ _ _ _) ?_
  exact xt_ret dX8_init_110 rfl (lb rfl) (lb rfl) ⟨rfl, ⟨⟨(hp_nt (by omega) (hp_s _ _ _)), (hp_s _ _ _), (hp_nt (by omega) (hp_nt (by omega) (hp_nt (by omega) (hp_nt (by omega) (hp_nt (by omega) (hp_nt (by omega) (hp_nt (by omega) (hp_nt (by omega) (hp_nt (by omega) (hp_nt (by omega) (hp_nt (by omega) (hp_nt (by omega) (hp_nt (by omega) (hp_nt (by omega) (hp_nt (by omega) (hp_nt (by omega) (hp_s _ _ _))))))))))))))))), (hp_nt (by omega) (hp_nt (by omega) (hp_nt (by omega) (hp_nt (by omega) (hp_nt (by omega) (hp_nt (by omega) (hp_nt (by omega) (hp_nt (by omega) (hp_nt (by omega) (hp_nt (by omega) (hp_nt (by omega) (hp_nt (by omega) (hp_nt (by omega) (hp_nt (by omega) (hp_s _ _ _))))))))))))))), (hp_nt (by omega) (hp_nt (by omega) (hp_nt (by omega) (hp_nt (by omega) (hp_nt (by omega) (hp_nt (by omega) (hp_nt (by omega) (hp_nt (by omega) (hp_nt (by omega) (hp_nt (by omega) (hp_nt (by omega) (hp_nt (by omega) (hp_s _ _ _))))))))))))), (hp_nt (by omega) (hp_nt (by omega) (hp_nt (by omega) (hp_nt (by omega) (hp_nt (by omega) (hp_nt (by omega) (hp_nt (by omega) (hp_nt (by omega) (hp_nt (by omega) (hp_nt (by omega) (hp_s _ _ _))))))))))), (hp_nt (by omega) (hp_nt (by omega) (hp_nt (by omega) (hp_nt (by omega) (hp_nt (by omega) (hp_nt (by omega) (hp_nt (by omega) (hp_nt (by omega) (hp_s _ _ _))))))))), (hp_nt (by omega) (hp_nt (by omega) (hp_nt (by omega) (hp_nt (by omega) (hp_nt (by omega) (hp_nt (by omega) (hp_s _ _ _))))))), (hp_nt (by omega) (hp_nt (by omega) (hp_nt (by omega) (hp_nt (by omega) (hp_s _ _ _))))), (hp_nt (by omega) (hp_nt (by omega) (hp_s _ _ _)))⟩, (fun j hj => by rw [hp_n _ _ (by omega), hp_n _ _ (by omega), hp_n _ _ (by omega), hp_n _ _ (by omega), hp_n _ _ (by omega), hp_n _ _ (by omega), hp_n _ _ (by omega), hp_n _ _ (by omega), hp_n _ _ (by omega), hp_n _ _ (by omega), hp_n _ _ (by omega), hp_n _ _ (by omega), hp_n _ _ (by omega), hp_n _ _ (by omega), hp_n _ _ (by omega), hp_n _ _ (by omega), hp_n _ _ (by omega), hp_n _ _ (by omega), hp_n _ _ (by omega)])⟩, rfl⟩
/-- a new object's cells, but for its sheets -/
def XI (h : ax_H) : Prop := h 0 = some (eX7 0) ∧ SI h 1 ∧ PI h 17 ∧ WF h 115 1 (fun _ => 0) 0 0 (fun _ => 0) (fun _ => 0) ∧ RDI h ∧ h 136 = some (ax_I 18 (fun _ => 0)) ∧ SI h 137 ∧ PI h 153
theorem WF.fr2 {h h2 : ax_H} {wb B : Nat} {q : Nat → Int32} {bz tk : Int32} {f g : Nat → Int32} (hW : WF h wb B q bz tk f g) (he : ∀ j, wb ≤ j → j < wb + 4 → h2 j = h j) : WF h2 wb B q bz tk f g := by
  obtain ⟨a1, a2, a3, a4⟩ := hW
  exact ⟨by rw [he _ (by omega) (by omega)]; exact a1, by rw [he _ (by omega) (by omega)]; exact a2, by rw [he _ (by omega) (by omega)]; exact a3, by rw [he _ (by omega) (by omega)]; exact a4⟩
theorem XI.fr {h h2 : ax_H} (hX : XI h) (he : ∀ j, j < 251 → j ≠ 135 → h2 j = h j) : XI h2 := by
  obtain ⟨a1, a2, a3, a4, a5, a6, a7, a8⟩ := hX
  exact ⟨by rw [he _ (by omega) (by omega)]; exact a1, a2.fr (fun j a b => he j (by omega) (by omega)), a3.fr (fun j a b => he j (by omega) (by omega)), a4.fr2 (fun j a b => he j (by omega) (by omega)), a5.fr (fun j a b => he j (by omega) (by omega)), by rw [he _ (by omega) (by omega)]; exact a6, a7.fr (fun j a b => he j (by omega) (by omega)), a8.fr (fun j a b => he j (by omega) (by omega))⟩
def SHI (h : ax_H) (s : Nat) : Prop := h (251 + 2 * s) = some (eSh (251 + 2 * s) 0 0 0) ∧ h (251 + 2 * s + 1) = some (ax_L 24 (fun _ => 0))
/-- a new object as a whole -/
theorem XI.cb {h : ax_H} (hX : XI h) (h135 : h 135 = some (ax_R 4 4 (fun k => some (251 + 2 * k)))) (hs : ∀ s, s < 4 → SHI h s) {r : Nat → Int32} (hr : ∀ j, j < 3 → r j = 0) (h3 : r 3 = 0) (h4 : r 4 = 1) (h5 : r 5 = -1) (h12 : r 12 = 0) (R Wi : Nat → Nat → Int32) (tp la : Nat → Int32) {mn : Nat → Int32} (hmn : ∀ s, s < 4 → mn s = -1) (it : Nat → Int64) : CB h r 0 R 0 0 (-1) Wi 0 tp mn la it := by
  obtain ⟨a1, a2, a3, a4, a5, a6, a7, a8⟩ := hX
  refine ⟨a1, ?_, a3.pa R, ⟨_, _, _, _, _, a4, Or.inl rfl⟩, a5.rd tp, ⟨_, a6⟩, ⟨R, 0, a8.pa R, a7.sx, Or.inl ⟨rfl, rfl⟩⟩, h135, fun s hs4 => ?_⟩
  · refine ⟨_, _, _, _, _, _, _, a2, ⟨fun k hk => hk, fun j k _ _ e => e⟩, ⟨fun j hj => (hr j hj).symm, h3.symm, h4.symm, fun k hk => by omega, Or.inl ⟨rfl, h5⟩, Or.inl rfl⟩, ⟨h12, by omega, fun k hk => by omega⟩, Or.inl h5⟩
  · obtain ⟨b1, b2⟩ := hs s hs4
    exact ⟨0, 0, 0, _, b1, b2, Or.inl ⟨rfl, hmn s hs4⟩⟩
set_option maxHeartbeats 400000 in
set_option maxRecDepth 100000 in
theorem cn_X7_init {h : ax_H} {n : Nat}  (h0 : h 0 = some (.inr (7, [.null, .null, .null, .null, .null, .null, .null, .null, .int 0]))) (hn : n = 1) : ax_C yX7_init cX7_init 2 none 4 258 2581 [.ref 0] h n (kP (fun h2 => XI h2 ∧ h2 135 = some (ax_R 4 4 (fun k => some (251 + 2 * k))) ∧ ∀ s, s < 4 → SHI h2 s) 259) := by
  subst hn
  refine ax_C.go RX7 "<init>" [some (.ref 0), none] rfl rfl pn_X7 (lb rfl) rfl (fun l G cy bs => ?_)
  have lp : ∀ (d k : Nat), k + d = 4 → ∀ (h1 : ax_H) (f : Nat → Option Nat), XI h1 → h1 135 = some (ax_R 4 4 f) → (∀ i, i < k → f i = some (251 + 2 * i)) → (∀ i, i < k → SHI h1 i) → ax_T l G cy bs (ax_rm 4 258 2581) RX7 "<init>" cX7_init 2 none (kP (fun h2 => XI h2 ∧ h2 135 = some (ax_R 4 4 (fun k => some (251 + 2 * k))) ∧ ∀ s, s < 4 → SHI h2 s) 259) 258 2581 97 [some (.ref 0), some (.int (nI k))] [] h1 (251 + 2 * k) (250 + 2 * k) (2469 + 28 * k) := by
    intro d
    induction d with
    | zero =>
      intro k hk h1 f hX c1 hf cs
      obtain rfl : k = 4 := by omega
      refine il1 dX7_init_97 ?_
      refine xt_iconst (4) dX7_init_98 rfl ?_
      refine xt_icmp_ge 121 dX7_init_99 rfl (fun _ => ?_) (fun q => absurd (nI_le (a := 4) (by omega) (by omega)) q)
      refine xt_ext (fun k => some (251 + 2 * k)) c1 (fun j hj => by rw [hf j hj]) ?_
      exact xt_ret dX7_init_121 rfl (lb rfl) (lb rfl) ⟨rfl, ⟨hX.fr (fun j a b => hp_n _ _ (by omega)), hp_s _ _ _, fun s hs => ⟨hp_nt (by omega) (cs s hs).1, hp_nt (by omega) (cs s hs).2⟩⟩, rfl⟩
    | succ d ih =>
      intro k hk h1 f hX c1 hf cs
      refine il1 dX7_init_97 ?_
      refine xt_iconst (4) dX7_init_98 rfl ?_
      refine xt_icmp_ge 121 dX7_init_99 rfl (fun q => absurd q (nI_ge (b := 4) (by omega) (by decide))) (fun _ => ?_)
      refine al0 dX7_init_102 ?_
      refine g_X7_41 dX7_init_103 hX.1 ?_
      refine il1 dX7_init_106 ?_
      refine nw_X7_39 dX7_init_107 ⟨by omega, by omega⟩ ?_
      refine xt_dup dX7_init_110 rfl ?_
      refine sN_X7_59 dX7_init_111 (cn_X4_init (hp_s _ _ _) rfl) ⟨lb rfl, by omega, by omega, lb rfl⟩ ?_
      rintro h2 ⟨s1, s2, f2⟩
      have g1 : h2 135 = some (ax_R 4 4 f) := by rw [f2 _ (by omega), hp_n _ _ (by omega)]; exact c1
      have gX : XI h2 := hX.fr (fun j a b => by rw [f2 _ (by omega), hp_n _ _ (by omega)])
      refine xt_aast4 (k) g1 (by omega) rfl (by decide) s1 dX7_init_114 ?_
      refine inc1 (nI (k + 1)) dX7_init_115 (nI_1 _) (by decide) rfl ?_
      refine xt_goto 97 dX7_init_118 rfl ?_
      refine xt_wid (c2 := 250 + 2 * (k + 1)) (s2 := 2469 + 28 * (k + 1)) (by omega) (by omega) ?_
      rw [show 251 + 2 * k + 2 = 251 + 2 * (k + 1) by omega]
      exact ih (k + 1) (by omega) _ _ (gX.fr (fun j a b => hp_n _ _ (by omega))) (hp_s _ _ _) (va_row (g := fun i => 251 + 2 * i) hf) (fun i hi => by
        rcases (show i < k ∨ i = k by omega) with z | rfl
        · exact ⟨by rw [hp_n _ _ (by omega), f2 _ (by omega), hp_n _ _ (by omega)]; exact (cs i z).1, by rw [hp_n _ _ (by omega), f2 _ (by omega), hp_n _ _ (by omega)]; exact (cs i z).2⟩
        · exact ⟨hp_nt (by omega) s1, hp_nt (by omega) s2⟩)
  refine al0 dX7_init_0 ?_
  refine s_X7_3 dX7_init_1 ⟨lb rfl, lb rfl⟩ ?_
  refine al0 dX7_init_4 ?_
  refine nw_X7_9 dX7_init_5 ⟨lb rfl, lb rfl⟩ ?_
  refine xt_dup dX7_init_8 rfl ?_
  refine sN_X7_11 dX7_init_9 (cn_X5_init (hp_s _ _ _) rfl) ⟨lb rfl, lb rfl, lb rfl, lb rfl⟩ ?_
  rintro h1 ⟨si1, f1⟩
  have z1 := (f1 0 (by omega)).trans (hp_nt (by omega) h0)
  refine p_X7_12 dX7_init_12 z1 ?_
  refine al0 dX7_init_15 ?_
  refine nw_X7_16 dX7_init_16 ⟨lb rfl, lb rfl⟩ ?_
  refine xt_dup dX7_init_19 rfl ?_
  refine sN_X7_18 dX7_init_20 (cn_X1_init (hp_s _ _ _) rfl) ⟨lb rfl, lb rfl, lb rfl, lb rfl⟩ ?_
  rintro h2 ⟨pi2, f2⟩
  have z2 := (f2 0 (by omega)).trans (hp_nt (by omega) (hp_s _ _ _))
  have si2 := si1.fr (h2 := h2) (fun j a b => by rw [f2 _ (by omega), hp_n _ _ (by omega), hp_n _ _ (by omega)])
  refine p_X7_19 dX7_init_23 z2 ?_
  refine al0 dX7_init_26 ?_
  refine nw_X7_23 dX7_init_27 ⟨lb rfl, lb rfl⟩ ?_
  refine xt_dup dX7_init_30 rfl ?_
  refine al0 dX7_init_31 ?_
  refine g_X7_12 dX7_init_32 (hp_nt (by omega) (hp_s _ _ _)) ?_
  refine sN_X7_25 dX7_init_35 (cn_X6_init (hp_s _ _ _) rfl) ⟨lb rfl, lb rfl, lb rfl, lb rfl⟩ ?_
  rintro h3 ⟨wf3, f3⟩
  have z3 := (f3 0 (by omega)).trans (hp_nt (by omega) (hp_s _ _ _))
  have si3 := si2.fr (h2 := h3) (fun j a b => by rw [f3 _ (by omega), hp_n _ _ (by omega), hp_n _ _ (by omega)])
  have pi3 := pi2.fr (h2 := h3) (fun j a b => by rw [f3 _ (by omega), hp_n _ _ (by omega), hp_n _ _ (by omega)])
  refine p_X7_28 dX7_init_38 z3 ?_
  refine al0 dX7_init_41 ?_
  refine nw_X7_32 dX7_init_42 ⟨lb rfl, lb rfl⟩ ?_
  refine xt_dup dX7_init_45 rfl ?_
  refine sN_X7_34 dX7_init_46 (cn_X3_init (hp_s _ _ _) rfl) ⟨lb rfl, lb rfl, lb rfl, lb rfl⟩ ?_
  rintro h4 ⟨rd4, f4⟩
  have z4 := (f4 0 (by omega)).trans (hp_nt (by omega) (hp_s _ _ _))
  have si4 := si3.fr (h2 := h4) (fun j a b => by rw [f4 _ (by omega), hp_n _ _ (by omega), hp_n _ _ (by omega)])
  have pi4 := pi3.fr (h2 := h4) (fun j a b => by rw [f4 _ (by omega), hp_n _ _ (by omega), hp_n _ _ (by omega)])
  have wf4 := wf3.fr2 (h2 := h4) (fun j a b => by rw [f4 _ (by omega), hp_n _ _ (by omega), hp_n _ _ (by omega)])
  refine p_X7_35 dX7_init_49 z4 ?_
  refine al0 dX7_init_52 ?_
  refine xt_iconst (4) dX7_init_53 rfl ?_
  refine na_X7_39 4 dX7_init_54 rfl (by decide) ⟨lb rfl, lb rfl⟩ ?_
  refine p_X7_41 dX7_init_57 (hp_nt (by omega) (hp_s _ _ _)) ?_
  refine al0 dX7_init_60 ?_
  refine xt_bipush (18) dX7_init_61 rfl ?_
  refine na_I 18 dX7_init_63 rfl (by decide) ⟨lb rfl, lb rfl⟩ ?_
  refine p_X7_45 dX7_init_65 (hp_nt (by omega) (hp_s _ _ _)) ?_
  refine al0 dX7_init_68 ?_
  refine nw_X7_9 dX7_init_69 ⟨lb rfl, lb rfl⟩ ?_
  refine xt_dup dX7_init_72 rfl ?_
  refine sN_X7_11 dX7_init_73 (cn_X5_init (hp_s _ _ _) rfl) ⟨lb rfl, lb rfl, lb rfl, lb rfl⟩ ?_
  rintro h5 ⟨sj5, f5⟩
  have z5 := (f5 0 (by omega)).trans (hp_nt (by omega) (hp_s _ _ _))
  have si5 := si4.fr (h2 := h5) (fun j a b => by rw [f5 _ (by omega), hp_n _ _ (by omega), hp_n _ _ (by omega), hp_n _ _ (by omega), hp_n _ _ (by omega), hp_n _ _ (by omega), hp_n _ _ (by omega)])
  have pi5 := pi4.fr (h2 := h5) (fun j a b => by rw [f5 _ (by omega), hp_n _ _ (by omega), hp_n _ _ (by omega), hp_n _ _ (by omega), hp_n _ _ (by omega), hp_n _ _ (by omega), hp_n _ _ (by omega)])
  have wf5 := wf4.fr2 (h2 := h5) (fun j a b => by rw [f5 _ (by omega), hp_n _ _ (by omega), hp_n _ _ (by omega), hp_n _ _ (by omega), hp_n _ _ (by omega), hp_n _ _ (by omega), hp_n _ _ (by omega)])
  have rd5 := rd4.fr (h2 := h5) (fun j a b => by rw [f5 _ (by omega), hp_n _ _ (by omega), hp_n _ _ (by omega), hp_n _ _ (by omega), hp_n _ _ (by omega), hp_n _ _ (by omega), hp_n _ _ (by omega)])
  have k135_5 := (f5 135 (by omega)).trans (hp_nt (by omega) (hp_nt (by omega) (hp_nt (by omega) (hp_nt (by omega) (hp_s _ _ _)))))
  have k136_5 := (f5 136 (by omega)).trans (hp_nt (by omega) (hp_nt (by omega) (hp_s _ _ _)))
  refine p_X7_49 dX7_init_76 z5 ?_
  refine al0 dX7_init_79 ?_
  refine nw_X7_16 dX7_init_80 ⟨lb rfl, lb rfl⟩ ?_
  refine xt_dup dX7_init_83 rfl ?_
  refine sN_X7_18 dX7_init_84 (cn_X1_init (hp_s _ _ _) rfl) ⟨lb rfl, lb rfl, lb rfl, lb rfl⟩ ?_
  rintro h6 ⟨pj6, f6⟩
  have z6 := (f6 0 (by omega)).trans (hp_nt (by omega) (hp_s _ _ _))
  have si6 := si5.fr (h2 := h6) (fun j a b => by rw [f6 _ (by omega), hp_n _ _ (by omega), hp_n _ _ (by omega)])
  have pi6 := pi5.fr (h2 := h6) (fun j a b => by rw [f6 _ (by omega), hp_n _ _ (by omega), hp_n _ _ (by omega)])
  have wf6 := wf5.fr2 (h2 := h6) (fun j a b => by rw [f6 _ (by omega), hp_n _ _ (by omega), hp_n _ _ (by omega)])
  have rd6 := rd5.fr (h2 := h6) (fun j a b => by rw [f6 _ (by omega), hp_n _ _ (by omega), hp_n _ _ (by omega)])
  have sj6 := sj5.fr (h2 := h6) (fun j a b => by rw [f6 _ (by omega), hp_n _ _ (by omega), hp_n _ _ (by omega)])
  have k135_6 := (f6 135 (by omega)).trans (hp_nt (by omega) (hp_nt (by omega) k135_5))
  have k136_6 := (f6 136 (by omega)).trans (hp_nt (by omega) (hp_nt (by omega) k136_5))
  refine p_X7_52 dX7_init_87 z6 ?_
  refine al0 dX7_init_90 ?_
  refine xt_iconst (0) dX7_init_91 rfl ?_
  refine p_X7_55 dX7_init_92 (Or.inl rfl) (hp_s _ _ _) ?_
  refine xt_eq (hp_hp _ _ _ _) ?_
  refine xt_iconst (0) dX7_init_95 rfl ?_
  refine is1 dX7_init_96 (by decide) rfl ?_
  refine xt_wid (c2 := 250) (s2 := 2469) (lb rfl) (lb rfl) ?_
  exact lp 4 0 (by omega) _ _ ⟨(hp_s _ _ _), si6.fr (fun j a b => by rw [hp_n _ _ (by omega)]), pi6.fr (fun j a b => by rw [hp_n _ _ (by omega)]), wf6.fr2 (fun j a b => by rw [hp_n _ _ (by omega)]), rd6.fr (fun j a b => by rw [hp_n _ _ (by omega)]), (hp_nt (by omega) k136_6), sj6.fr (fun j a b => by rw [hp_n _ _ (by omega)]), pj6.fr (fun j a b => by rw [hp_n _ _ (by omega)])⟩ (hp_nt (by omega) k135_6) (fun i hi => by omega) (fun i hi => by omega)
