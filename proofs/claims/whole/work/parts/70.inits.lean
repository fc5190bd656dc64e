section AXN
variable {l : Launch} {G : va_G} {cy : ax_Y} {b : Nat} {R : Room} {own nm : String} {cc : ByteArray} {nL : Nat} {ret : Option FieldType} {K : Option Value → ax_H → Nat → Prop} {mc ms pc : Nat} {lv : List (Option Value)} {st : List Value} {h : ax_H} {n cells slots : Nat} {D mR sR : Nat}
/-- a row of references may be told anew beyond its end -/
theorem xt_ext {i t N : Nat} {f : Nat → Option Nat} (f2 : Nat → Option Nat) (hi : h i = some (ax_R t N f)) (he : ∀ j, j < N → f j = f2 j) (k : ax_T l G cy b R own nm cc nL ret K mc ms pc lv st (hp h i (ax_R t N f2)) n cells slots) : ax_T l G cy b R own nm cc nL ret K mc ms pc lv st h n cells slots := by
  intro p e s m args below meth c Q H locs ls E hK hR hRp hS hb hl
  refine k p e s m args below meth c Q H locs ls E hK hR (hRp.set rfl ?_ (fun _ _ => rfl)) hS hb hl
  have h1 : H[b + i]? = some (arrV (cy.1 t) N (fun j => va_rf ((f j).map (fun i => b + i)))) := hRp.2 i _ hi
  show H[b + i]? = some (arrV (cy.1 t) N (fun j => va_rf ((f2 j).map (fun i => b + i))))
  rw [h1]
  unfold arrV
  congr 2
  congr 1
  funext j
  show va_rf ((f j.val).map (fun i => b + i)) = va_rf ((f2 j.val).map (fun i => b + i))
  rw [he j.val j.isLt]
theorem sN_L_9 {o : Nat} {PP : ax_H → Prop} {n2 : Nat} (hd : decode cc pc = .ok (.invokespecial 9, 3)) (hC : ax_C yX7_init cX7_init 2 none 4 258 2581 [.ref o] h n (kP PP n2)) (hD : cells + 258 ≤ room_1.cells ∧ slots + 2581 ≤ room_1.slots ∧ (st.map fun v => v.category).sum ≤ 8) (kk : ∀ h2, PP h2 → ax_T l G cy b room_1 RL nm cc nL ret K mc ms (pc + 3) lv st h2 n2 (cells + 258) (slots + 2581)) : ax_T l G cy b room_1 RL nm cc nL ret K mc ms pc lv (.ref o :: st) h n cells slots :=
  xt_callI (as := []) (hC l G cy b) rfl mb21 mb1 mb20 (Or.inl mb19) de_X7_init ⟨by decide, by decide⟩ ⟨hD.1, hD.2.1⟩ hD.2.2 rfl hd (kP_k kk)
theorem sN_X7_11 {o : Nat} {PP : ax_H → Prop} {n2 : Nat} (hd : decode cc pc = .ok (.invokespecial 11, 3)) (hC : ax_C yX5_init cX5_init 2 none 2 15 145 [.ref o] h n (kP PP n2)) (hD : 2 + 1 ≤ D ∧ cells + 15 ≤ mR ∧ slots + 145 ≤ sR ∧ (st.map fun v => v.category).sum ≤ 8) (kk : ∀ h2, PP h2 → ax_T l G cy b (ax_rm D mR sR) RX7 nm cc nL ret K mc ms (pc + 3) lv st h2 n2 (cells + 15) (slots + 145)) : ax_T l G cy b (ax_rm D mR sR) RX7 nm cc nL ret K mc ms pc lv (.ref o :: st) h n cells slots :=
  xt_callI (as := []) (hC l G cy b) rfl mb29 mb2 mb28 (Or.inr ⟨"PulsedAxes", nb27⟩) de_X5_init ⟨hD.1, by show 8 + (2 + 11) + 34 * 2 ≤ 34 * D; have := hD.1; omega⟩ ⟨hD.2.1, hD.2.2.1⟩ hD.2.2.2 rfl hd (kP_k kk)
theorem sN_X7_18 {o : Nat} {PP : ax_H → Prop} {n2 : Nat} (hd : decode cc pc = .ok (.invokespecial 18, 3)) (hC : ax_C yX1_init cX1_init 2 none 3 97 918 [.ref o] h n (kP PP n2)) (hD : 3 + 1 ≤ D ∧ cells + 97 ≤ mR ∧ slots + 918 ≤ sR ∧ (st.map fun v => v.category).sum ≤ 8) (kk : ∀ h2, PP h2 → ax_T l G cy b (ax_rm D mR sR) RX7 nm cc nL ret K mc ms (pc + 3) lv st h2 n2 (cells + 97) (slots + 918)) : ax_T l G cy b (ax_rm D mR sR) RX7 nm cc nL ret K mc ms pc lv (.ref o :: st) h n cells slots :=
  xt_callI (as := []) (hC l G cy b) rfl mb116 mb4 mb115 (Or.inr ⟨"PulsedAxes", nb114⟩) de_X1_init ⟨hD.1, by show 8 + (2 + 11) + 34 * 3 ≤ 34 * D; have := hD.1; omega⟩ ⟨hD.2.1, hD.2.2.1⟩ hD.2.2.2 rfl hd (kP_k kk)
theorem sN_X1_21 {o : Nat} {PP : ax_H → Prop} {n2 : Nat} (hd : decode cc pc = .ok (.invokespecial 21, 3)) (hC : ax_C yX5_init cX5_init 2 none 2 15 145 [.ref o] h n (kP PP n2)) (hD : 2 + 1 ≤ D ∧ cells + 15 ≤ mR ∧ slots + 145 ≤ sR ∧ (st.map fun v => v.category).sum ≤ 8) (kk : ∀ h2, PP h2 → ax_T l G cy b (ax_rm D mR sR) RX1 nm cc nL ret K mc ms (pc + 3) lv st h2 n2 (cells + 15) (slots + 145)) : ax_T l G cy b (ax_rm D mR sR) RX1 nm cc nL ret K mc ms pc lv (.ref o :: st) h n cells slots :=
  xt_callI (as := []) (hC l G cy b) rfl mb29 mb2 mb28 (Or.inr ⟨"PulsedAxes", nb120⟩) de_X5_init ⟨hD.1, by show 8 + (2 + 11) + 34 * 2 ≤ 34 * D; have := hD.1; omega⟩ ⟨hD.2.1, hD.2.2.1⟩ hD.2.2.2 rfl hd (kP_k kk)
theorem sN_X7_25 {o : Nat} {a1 : Value} {PP : ax_H → Prop} {n2 : Nat} (hd : decode cc pc = .ok (.invokespecial 25, 3)) (hC : ax_C yX6_init cX6_init 2 none 2 3 16 [.ref o, a1] h n (kP PP n2)) (hD : 2 + 1 ≤ D ∧ cells + 3 ≤ mR ∧ slots + 16 ≤ sR ∧ (st.map fun v => v.category).sum ≤ 8) (kk : ∀ h2, PP h2 → ax_T l G cy b (ax_rm D mR sR) RX7 nm cc nL ret K mc ms (pc + 3) lv st h2 n2 (cells + 3) (slots + 16)) : ax_T l G cy b (ax_rm D mR sR) RX7 nm cc nL ret K mc ms pc lv (a1 :: .ref o :: st) h n cells slots :=
  xt_callI (as := [a1]) (hC l G cy b) rfl mb133 mb5 mb132 (Or.inr ⟨"PulsedAxes", nb131⟩) de_X6_init ⟨hD.1, by show 8 + (2 + 11) + 34 * 2 ≤ 34 * D; have := hD.1; omega⟩ ⟨hD.2.1, hD.2.2.1⟩ hD.2.2.2 rfl hd (kP_k kk)
theorem sN_X7_34 {o : Nat} {PP : ax_H → Prop} {n2 : Nat} (hd : decode cc pc = .ok (.invokespecial 34, 3)) (hC : ax_C yX3_init cX3_init 2 none 2 15 275 [.ref o] h n (kP PP n2)) (hD : 2 + 1 ≤ D ∧ cells + 15 ≤ mR ∧ slots + 275 ≤ sR ∧ (st.map fun v => v.category).sum ≤ 8) (kk : ∀ h2, PP h2 → ax_T l G cy b (ax_rm D mR sR) RX7 nm cc nL ret K mc ms (pc + 3) lv st h2 n2 (cells + 15) (slots + 275)) : ax_T l G cy b (ax_rm D mR sR) RX7 nm cc nL ret K mc ms pc lv (.ref o :: st) h n cells slots :=
  xt_callI (as := []) (hC l G cy b) rfl mb162 mb6 mb161 (Or.inr ⟨"PulsedAxes", nb160⟩) de_X3_init ⟨hD.1, by show 8 + (2 + 11) + 34 * 2 ≤ 34 * D; have := hD.1; omega⟩ ⟨hD.2.1, hD.2.2.1⟩ hD.2.2.2 rfl hd (kP_k kk)
theorem sN_X7_59 {o : Nat} {PP : ax_H → Prop} {n2 : Nat} (hd : decode cc pc = .ok (.invokespecial 59, 3)) (hC : ax_C yX4_init cX4_init 1 none 1 1 24 [.ref o] h n (kP PP n2)) (hD : 1 + 1 ≤ D ∧ cells + 1 ≤ mR ∧ slots + 24 ≤ sR ∧ (st.map fun v => v.category).sum ≤ 8) (kk : ∀ h2, PP h2 → ax_T l G cy b (ax_rm D mR sR) RX7 nm cc nL ret K mc ms (pc + 3) lv st h2 n2 (cells + 1) (slots + 24)) : ax_T l G cy b (ax_rm D mR sR) RX7 nm cc nL ret K mc ms pc lv (.ref o :: st) h n cells slots :=
  xt_callI (as := []) (hC l G cy b) rfl mb195 mb7 mb194 (Or.inr ⟨"PulsedAxes", nb193⟩) de_X4_init ⟨hD.1, by show 8 + (1 + 11) + 34 * 1 ≤ 34 * D; have := hD.1; omega⟩ ⟨hD.2.1, hD.2.2.1⟩ hD.2.2.2 rfl hd (kP_k kk)
theorem sN_L_12 {o : Nat} {PP : ax_H → Prop} {n2 : Nat} (hd : decode cc pc = .ok (.invokespecial 12, 3)) (hC : ax_C yX8_init cX8_init 1 none 1 9 1252 [.ref o] h n (kP PP n2)) (hD : cells + 9 ≤ room_1.cells ∧ slots + 1252 ≤ room_1.slots ∧ (st.map fun v => v.category).sum ≤ 8) (kk : ∀ h2, PP h2 → ax_T l G cy b room_1 RL nm cc nL ret K mc ms (pc + 3) lv st h2 n2 (cells + 9) (slots + 1252)) : ax_T l G cy b room_1 RL nm cc nL ret K mc ms pc lv (.ref o :: st) h n cells slots :=
  xt_callI (as := []) (hC l G cy b) rfl mb739 mb8 mb738 (Or.inl mb737) de_X8_init ⟨by decide, by decide⟩ ⟨hD.1, hD.2.1⟩ hD.2.2 rfl hd (kP_k kk)
end AXN
theorem va_row {f : Nat → Option Nat} {k : Nat} {g : Nat → Nat} (hf : ∀ i, i < k → f i = some (g i)) : ∀ i, i < k + 1 → va_up f k (some (g k)) i = some (g i) := by
  intro i hi
  by_cases h : i = k
  · subst h; rw [va_up_self]
  · rw [va_up_ne _ _ h]; exact hf i (by omega)
/-- a new state -/
def SI (h : ax_H) (B : Nat) : Prop := SF h B (fun _ => 0) (fun i => i) (fun _ _ => 0) 0 (fun _ => 0) 0 0 1
theorem SI.fr {h h2 : ax_H} {B : Nat} (hS : SI h B) (he : ∀ j, B ≤ j → j < B + 16 → h2 j = h j) : SI h2 B := by
  obtain ⟨a1, a2, a3, a4, a5⟩ := hS
  exact ⟨by rw [he _ (by omega) (by omega)]; exact a1, by rw [he _ (by omega) (by omega)]; exact a2, by rw [he _ (by omega) (by omega)]; exact a3, by rw [he _ (by omega) (by omega)]; exact a4, fun i hi => by rw [he _ (by omega) (by omega)]; exact a5 i hi⟩
theorem SI.sx {h : ax_H} {B : Nat} (hS : SI h B) : SX h B := ⟨_, _, _, _, _, _, _, _, hS, ⟨fun k hk => hk, fun j k _ _ e => e⟩, Or.inl rfl, Or.inl rfl⟩
/-- a new past -/
def PI (h : ax_H) (b : Nat) : Prop := h b = some (ePa b 0) ∧ h (b + 1) = some (ax_R 5 6 (kpF b (fun i => i))) ∧ ∀ i, i < 6 → SI h (b + 2 + 16 * i)
theorem PI.fr {h h2 : ax_H} {b : Nat} (hS : PI h b) (he : ∀ j, b ≤ j → j < b + 98 → h2 j = h j) : PI h2 b :=
  ⟨by rw [he _ (by omega) (by omega)]; exact hS.1, by rw [he _ (by omega) (by omega)]; exact hS.2.1, fun i hi => (hS.2.2 i hi).fr (fun j a c => he j (by omega) (by omega))⟩
theorem PI.pa {h : ax_H} {b : Nat} (hS : PI h b) (R : Nat → Nat → Int32) : PA h b R 0 :=
  ⟨fun i => i, hS.1, hS.2.1, by omega, ⟨fun k hk => hk, fun j k _ _ e => e⟩, fun i hi => (hS.2.2 i hi).sx, fun i hi => by omega⟩
set_option maxHeartbeats 400000 in
set_option maxRecDepth 100000 in
theorem cn_X2_init {h : ax_H} {n : Nat} {p : Nat}  : ax_C yX2_init cX2_init 1 none 1 0 0 [.ref p] h n (kv h n) := by
  refine ax_C.go RX2 "<init>" [some (.ref p)] rfl rfl pn_X2 (lb rfl) rfl (fun l G cy bs => ?_)
  refine al0 dX2_init_0 ?_
  refine s_X2_3 dX2_init_1 ⟨lb rfl, lb rfl⟩ ?_
  exact xt_ret dX2_init_4 rfl (lb rfl) (lb rfl) ⟨rfl, rfl, rfl⟩
set_option maxHeartbeats 400000 in
set_option maxRecDepth 100000 in
theorem cn_X4_init {h : ax_H} {n : Nat} {p : Nat} (h0 : h p = some (.inr (4, [.null, .int 0, .int 0, .int 0]))) (hn : n = p + 1) : ax_C yX4_init cX4_init 1 none 1 1 24 [.ref p] h n (kP (fun h2 => h2 p = some (eSh p 0 0 0) ∧ h2 (p + 1) = some (ax_L 24 (fun _ => 0)) ∧ ∀ j, j < p → h2 j = h j) (p + 2)) := by
  subst hn
  refine ax_C.go RX4 "<init>" [some (.ref p)] rfl rfl pn_X4 (lb rfl) rfl (fun l G cy bs => ?_)
  refine al0 dX4_init_0 ?_
  refine s_X4_3 dX4_init_1 ⟨lb rfl, lb rfl⟩ ?_
  refine al0 dX4_init_4 ?_
  refine xt_bipush (24) dX4_init_5 rfl ?_
  refine na_L 24 dX4_init_7 rfl (by decide) ⟨lb rfl, lb rfl⟩ ?_
  refine p_X4_9 dX4_init_9 (hp_nt (by omega) h0) ?_
  refine al0 dX4_init_12 ?_
  refine xt_iconst (0) dX4_init_13 rfl ?_
  refine p_X4_15 dX4_init_14 (Or.inl rfl) (hp_s _ _ _) ?_
  refine xt_eq (hp_hp _ _ _ _) ?_
  refine al0 dX4_init_17 ?_
  refine xt_iconst (0) dX4_init_18 rfl ?_
  refine p_X4_19 dX4_init_19 (hp_s _ _ _) ?_
  refine xt_eq (hp_hp _ _ _ _) ?_
  refine al0 dX4_init_22 ?_
  refine xt_iconst (0) dX4_init_23 rfl ?_
  refine p_X4_23 dX4_init_24 (hp_s _ _ _) ?_
  refine xt_eq (hp_hp _ _ _ _) ?_
  exact xt_ret dX4_init_27 rfl (lb rfl) (lb rfl) ⟨rfl, ⟨(hp_s _ _ _), (hp_nt (by omega) (hp_s _ _ _)), (fun j hj => by rw [hp_n _ _ (by omega), hp_n _ _ (by omega)])⟩, rfl⟩
set_option maxHeartbeats 400000 in
set_option maxRecDepth 100000 in
theorem cn_X5_init {h : ax_H} {n : Nat} {p : Nat} (h0 : h p = some (.inr (5, [.null, .null, .int 0, .null, .int 0, .int 0, .int 0]))) (hn : n = p + 1) : ax_C yX5_init cX5_init 2 none 2 15 145 [.ref p] h n (kP (fun h2 => SI h2 p ∧ ∀ j, j < p → h2 j = h j) (p + 16)) := by
  subst hn
  refine ax_C.go RX5 "<init>" [some (.ref p), none] rfl rfl pn_X5 (lb rfl) rfl (fun l G cy bs => ?_)
  have lp : ∀ (d k : Nat), k + d = 12 → ∀ (h1 : ax_H) (f : Nat → Option Nat), h1 p = some (eSt p 0 0 0 1) → h1 (p + 1) = some (ax_I 3 (fun _ => 0)) → h1 (p + 2) = some (ax_R 3 12 f) → (∀ i, i < k → f i = some (p + 4 + i)) → h1 (p + 3) = some (ePc (fun _ => 0)) → (∀ i, i < k → h1 (p + 4 + i) = some (ePc (fun _ => 0))) → (∀ j, j < p → h1 j = h j) → ax_T l G cy bs (ax_rm 2 15 145) RX5 "<init>" cX5_init 2 none (kP (fun h2 => SI h2 p ∧ ∀ j, j < p → h2 j = h j) (p + 16)) 15 145 53 [some (.ref p), some (.int (nI k))] [] h1 (p + 4 + k) (3 + k) (25 + 10 * k) := by
    intro d
    induction d with
    | zero =>
      intro k hk h1 f c0 c1 c2 hf c3 cp hfr
      obtain rfl : k = 12 := by omega
      refine il1 dX5_init_53 ?_
      refine xt_bipush (12) dX5_init_54 rfl ?_
      refine xt_icmp_ge 78 dX5_init_56 rfl (fun _ => ?_) (fun q => absurd (nI_le (a := 12) (by omega) (by omega)) q)
      refine xt_ext (rwF p (fun i => i)) c2 (fun j hj => by rw [hf j hj]) ?_
      exact xt_ret dX5_init_78 rfl (lb rfl) (lb rfl) ⟨rfl, ⟨⟨hp_nt (by omega) c0, hp_nt (by omega) c1, hp_s _ _ _, hp_nt (by omega) c3, fun i hi => hp_nt (by omega) (cp i hi)⟩, fun j hj => by rw [hp_n _ _ (by omega)]; exact hfr j hj⟩, rfl⟩
    | succ d ih =>
      intro k hk h1 f c0 c1 c2 hf c3 cp hfr
      refine il1 dX5_init_53 ?_
      refine xt_bipush (12) dX5_init_54 rfl ?_
      refine xt_icmp_ge 78 dX5_init_56 rfl (fun q => absurd q (nI_ge (b := 12) (by omega) (by decide))) (fun _ => ?_)
      refine al0 dX5_init_59 ?_
      refine g_X5_17 dX5_init_60 c0 ?_
      refine il1 dX5_init_63 ?_
      refine nw_X5_15 dX5_init_64 ⟨by omega, by omega⟩ ?_
      refine xt_heq (congrArg (hp _ _) ePc_0) ?_
      refine xt_dup dX5_init_67 rfl ?_
      refine s_X5_25 dX5_init_68 cn_X2_init ⟨lb rfl, by omega, by omega, lb rfl⟩ ?_
      refine xt_aast3 (k) (hp_nt (by omega) c2) (by omega) rfl (by decide) (hp_s _ _ _) dX5_init_71 ?_
      refine inc1 (nI (k + 1)) dX5_init_72 (nI_1 _) (by decide) rfl ?_
      refine xt_goto 53 dX5_init_75 rfl ?_
      refine xt_wid (c2 := 3 + (k + 1)) (s2 := 25 + 10 * (k + 1)) (by omega) (by omega) ?_
      exact ih (k + 1) (by omega) _ _ (hp_nt (by omega) (hp_nt (by omega) c0)) (hp_nt (by omega) (hp_nt (by omega) c1)) (hp_s _ _ _) (va_row (g := fun i => p + 4 + i) hf) (hp_nt (by omega) (hp_nt (by omega) c3)) (fun i hi => by
        rcases (show i < k ∨ i = k by omega) with z | rfl
        · exact hp_nt (by omega) (hp_nt (by omega) (cp i z))
        · exact hp_nt (by omega) (hp_s _ _ _)) (fun j hj => by rw [hp_n _ _ (by omega), hp_n _ _ (by omega)]; exact hfr j hj)
  refine al0 dX5_init_0 ?_
  refine s_X5_3 dX5_init_1 ⟨lb rfl, lb rfl⟩ ?_
  refine al0 dX5_init_4 ?_
  refine xt_iconst (3) dX5_init_5 rfl ?_
  refine na_I 3 dX5_init_6 rfl (by decide) ⟨lb rfl, lb rfl⟩ ?_
  refine p_X5_9 dX5_init_8 (hp_nt (by omega) h0) ?_
  refine al0 dX5_init_11 ?_
  refine xt_bipush (12) dX5_init_12 rfl ?_
  refine na_X5_15 12 dX5_init_14 rfl (by decide) ⟨lb rfl, lb rfl⟩ ?_
  refine p_X5_17 dX5_init_17 (hp_nt (by omega) (hp_s _ _ _)) ?_
  refine al0 dX5_init_20 ?_
  refine xt_iconst (0) dX5_init_21 rfl ?_
  refine p_X5_21 dX5_init_22 (hp_s _ _ _) ?_
  refine xt_eq (hp_hp _ _ _ _) ?_
  refine al0 dX5_init_25 ?_
  refine nw_X5_15 dX5_init_26 ⟨lb rfl, lb rfl⟩ ?_
  refine xt_heq (congrArg (hp _ _) ePc_0) ?_
  refine xt_dup dX5_init_29 rfl ?_
  refine s_X5_25 dX5_init_30 cn_X2_init ⟨lb rfl, lb rfl, lb rfl, lb rfl⟩ ?_
  refine p_X5_26 dX5_init_33 (hp_nt (by omega) (hp_s _ _ _)) ?_
  refine al0 dX5_init_36 ?_
  refine xt_iconst (0) dX5_init_37 rfl ?_
  refine p_X5_30 dX5_init_38 (Or.inl rfl) (hp_s _ _ _) ?_
  refine xt_eq (hp_hp _ _ _ _) ?_
  refine al0 dX5_init_41 ?_
  refine xt_iconst (0) dX5_init_42 rfl ?_
  refine p_X5_34 dX5_init_43 (Or.inl rfl) (hp_s _ _ _) ?_
  refine xt_eq (hp_hp _ _ _ _) ?_
  refine al0 dX5_init_46 ?_
  refine xt_iconst (1) dX5_init_47 rfl ?_
  refine p_X5_37 dX5_init_48 (hp_s _ _ _) ?_
  refine xt_eq (hp_hp _ _ _ _) ?_
  refine xt_iconst (0) dX5_init_51 rfl ?_
  refine is1 dX5_init_52 (by decide) rfl ?_
  exact lp 12 0 (by omega) _ _ (hp_s _ _ _) (hp_nt (by omega) (hp_nt (by omega) (hp_nt (by omega) (hp_nt (by omega) (hp_nt (by omega) (hp_s _ _ _)))))) (hp_nt (by omega) (hp_nt (by omega) (hp_nt (by omega) (hp_s _ _ _)))) (fun i hi => by omega) (hp_nt (by omega) (hp_s _ _ _)) (fun i hi => by omega) (fun j hj => by rw [hp_n _ _ (by omega), hp_n _ _ (by omega), hp_n _ _ (by omega), hp_n _ _ (by omega), hp_n _ _ (by omega), hp_n _ _ (by omega)])
set_option maxHeartbeats 400000 in
set_option maxRecDepth 100000 in
theorem cn_X1_init {h : ax_H} {n : Nat} {p : Nat} (h0 : h p = some (.inr (1, [.null, .int 0]))) (hn : n = p + 1) : ax_C yX1_init cX1_init 2 none 3 97 918 [.ref p] h n (kP (fun h2 => PI h2 p ∧ ∀ j, j < p → h2 j = h j) (p + 98)) := by
  subst hn
  refine ax_C.go RX1 "<init>" [some (.ref p), none] rfl rfl pn_X1 (lb rfl) rfl (fun l G cy bs => ?_)
  have lp : ∀ (d k : Nat), k + d = 6 → ∀ (h1 : ax_H) (f : Nat → Option Nat), h1 p = some (ePa p 0) → h1 (p + 1) = some (ax_R 5 6 f) → (∀ i, i < k → f i = some (p + 2 + 16 * i)) → (∀ i, i < k → SI h1 (p + 2 + 16 * i)) → (∀ j, j < p → h1 j = h j) → ax_T l G cy bs (ax_rm 3 97 918) RX1 "<init>" cX1_init 2 none (kP (fun h2 => PI h2 p ∧ ∀ j, j < p → h2 j = h j) (p + 98)) 97 918 20 [some (.ref p), some (.int (nI k))] [] h1 (p + 2 + 16 * k) (1 + 16 * k) (6 + 152 * k) := by
    intro d
    induction d with
    | zero =>
      intro k hk h1 f c0 c1 hf cs hfr
      obtain rfl : k = 6 := by omega
      refine il1 dX1_init_20 ?_
      refine xt_bipush (6) dX1_init_21 rfl ?_
      refine xt_icmp_ge 45 dX1_init_23 rfl (fun _ => ?_) (fun q => absurd (nI_le (a := 6) (by omega) (by omega)) q)
      refine xt_ext (kpF p (fun i => i)) c1 (fun j hj => by rw [hf j hj]) ?_
      exact xt_ret dX1_init_45 rfl (lb rfl) (lb rfl) ⟨rfl, ⟨⟨hp_nt (by omega) c0, hp_s _ _ _, fun i hi => (cs i hi).fr (fun j a b => hp_n _ _ (by omega))⟩, fun j hj => by rw [hp_n _ _ (by omega)]; exact hfr j hj⟩, rfl⟩
    | succ d ih =>
      intro k hk h1 f c0 c1 hf cs hfr
      refine il1 dX1_init_20 ?_
      refine xt_bipush (6) dX1_init_21 rfl ?_
      refine xt_icmp_ge 45 dX1_init_23 rfl (fun q => absurd q (nI_ge (b := 6) (by omega) (by decide))) (fun _ => ?_)
      refine al0 dX1_init_26 ?_
      refine g_X1_11 dX1_init_27 c0 ?_
      refine il1 dX1_init_30 ?_
      refine nw_X1_9 dX1_init_31 ⟨by omega, by omega⟩ ?_
      refine xt_dup dX1_init_34 rfl ?_
      refine sN_X1_21 dX1_init_35 (cn_X5_init (hp_s _ _ _) rfl) ⟨lb rfl, by omega, by omega, lb rfl⟩ ?_
      rintro h2 ⟨si, f2⟩
      have g0 : h2 p = some (ePa p 0) := by rw [f2 _ (by omega), hp_n _ _ (by omega)]; exact c0
      have g1 : h2 (p + 1) = some (ax_R 5 6 f) := by rw [f2 _ (by omega), hp_n _ _ (by omega)]; exact c1
      refine xt_aast5 (k) g1 (by omega) rfl (by decide) si.1 dX1_init_38 ?_
      refine inc1 (nI (k + 1)) dX1_init_39 (nI_1 _) (by decide) rfl ?_
      refine xt_goto 20 dX1_init_42 rfl ?_
      refine xt_wid (c2 := 1 + 16 * (k + 1)) (s2 := 6 + 152 * (k + 1)) (by omega) (by omega) ?_
      rw [show p + 2 + 16 * k + 16 = p + 2 + 16 * (k + 1) by omega]
      exact ih (k + 1) (by omega) _ _ (hp_nt (by omega) g0) (hp_s _ _ _) (va_row (g := fun i => p + 2 + 16 * i) hf) (fun i hi => by
        rcases (show i < k ∨ i = k by omega) with z | rfl
        · exact (cs i z).fr (fun j a b => by rw [hp_n _ _ (by omega), f2 _ (by omega), hp_n _ _ (by omega)])
        · exact si.fr (fun j a b => hp_n _ _ (by omega))) (fun j hj => by rw [hp_n _ _ (by omega), f2 _ (by omega), hp_n _ _ (by omega)]; exact hfr j hj)
  refine al0 dX1_init_0 ?_
  refine s_X1_3 dX1_init_1 ⟨lb rfl, lb rfl⟩ ?_
  refine al0 dX1_init_4 ?_
  refine xt_bipush (6) dX1_init_5 rfl ?_
  refine na_X1_9 6 dX1_init_7 rfl (by decide) ⟨lb rfl, lb rfl⟩ ?_
  refine p_X1_11 dX1_init_10 (hp_nt (by omega) h0) ?_
  refine al0 dX1_init_13 ?_
  refine xt_iconst (0) dX1_init_14 rfl ?_
  refine p_X1_17 dX1_init_15 (hp_s _ _ _) ?_
  refine xt_eq (hp_hp _ _ _ _) ?_
  refine xt_iconst (0) dX1_init_18 rfl ?_
  refine is1 dX1_init_19 (by decide) rfl ?_
  exact lp 6 0 (by omega) _ _ (hp_s _ _ _) (hp_nt (by omega) (hp_s _ _ _)) (fun i hi => by omega) (fun i hi => by omega) (fun j hj => by rw [hp_n _ _ (by omega), hp_n _ _ (by omega)])
set_option maxHeartbeats 400000 in
set_option maxRecDepth 100000 in
theorem cn_X6_init {h : ax_H} {n : Nat} {p q : Nat} (h0 : h p = some (.inr (6, [.null, .null, .int 0, .int 0, .null, .null]))) (hn : n = p + 1) : ax_C yX6_init cX6_init 2 none 2 3 16 [.ref p, .ref q] h n (kP (fun h2 => WF h2 p q (fun _ => 0) 0 0 (fun _ => 0) (fun _ => 0) ∧ ∀ j, j < p → h2 j = h j) (p + 4)) := by
  subst hn
  refine ax_C.go RX6 "<init>" [some (.ref p), some (.ref q)] rfl rfl pn_X6 (lb rfl) rfl (fun l G cy bs => ?_)
  refine al0 dX6_init_0 ?_
  refine s_X6_3 dX6_init_1 ⟨lb rfl, lb rfl⟩ ?_
  refine al0 dX6_init_4 ?_
  refine nw_X6_9 dX6_init_5 ⟨lb rfl, lb rfl⟩ ?_
  refine xt_heq (congrArg (hp _ _) ePc_0) ?_
  refine xt_dup dX6_init_8 rfl ?_
  refine s_X6_11 dX6_init_9 cn_X2_init ⟨lb rfl, lb rfl, lb rfl, lb rfl⟩ ?_
  refine p_X6_12 dX6_init_12 (hp_nt (by omega) h0) ?_
  refine al0 dX6_init_15 ?_
  refine xt_iconst (0) dX6_init_16 rfl ?_
  refine p_X6_18 dX6_init_17 (Or.inl rfl) (hp_s _ _ _) ?_
  refine xt_eq (hp_hp _ _ _ _) ?_
  refine al0 dX6_init_20 ?_
  refine xt_iconst (0) dX6_init_21 rfl ?_
  refine p_X6_22 dX6_init_22 (hp_s _ _ _) ?_
  refine xt_eq (hp_hp _ _ _ _) ?_
  refine al0 dX6_init_25 ?_
  refine xt_iconst (3) dX6_init_26 rfl ?_
  refine na_I 3 dX6_init_27 rfl (by decide) ⟨lb rfl, lb rfl⟩ ?_
  refine p_X6_26 dX6_init_29 (hp_nt (by omega) (hp_s _ _ _)) ?_
  refine al0 dX6_init_32 ?_
  refine xt_iconst (3) dX6_init_33 rfl ?_
  refine na_I 3 dX6_init_34 rfl (by decide) ⟨lb rfl, lb rfl⟩ ?_
  refine p_X6_30 dX6_init_36 (hp_nt (by omega) (hp_s _ _ _)) ?_
  refine al0 dX6_init_39 ?_
  refine al1 dX6_init_40 ?_
  refine p_X6_33 dX6_init_41 (hp_s _ _ _) ?_
  refine xt_eq (hp_hp _ _ _ _) ?_
  exact xt_ret dX6_init_44 rfl (lb rfl) (lb rfl) ⟨rfl, ⟨⟨(hp_s _ _ _), (hp_nt (by omega) (hp_nt (by omega) (hp_nt (by omega) (hp_nt (by omega) (hp_nt (by omega) (hp_s _ _ _)))))), (hp_nt (by omega) (hp_nt (by omega) (hp_nt (by omega) (hp_s _ _ _)))), (hp_nt (by omega) (hp_s _ _ _))⟩, (fun j hj => by rw [hp_n _ _ (by omega), hp_n _ _ (by omega), hp_n _ _ (by omega), hp_n _ _ (by omega), hp_n _ _ (by omega), hp_n _ _ (by omega)])⟩, rfl⟩
/-- a new reader -/
def RDI (h : ax_H) : Prop := h 119 = some (eRd 0 0 0) ∧ h 120 = some (ax_B 140 (fun _ => 0)) ∧ h 121 = some (ax_R 3 12 (fun k => some (123 + k))) ∧ h 122 = some (ax_I 3 (fun _ => 0)) ∧ ∀ i, i < 12 → h (123 + i) = some (ePc (fun _ => 0))
theorem RDI.fr {h h2 : ax_H} (hS : RDI h) (he : ∀ j, 119 ≤ j → j < 135 → h2 j = h j) : RDI h2 := by
  obtain ⟨a1, a2, a3, a4, a5⟩ := hS
  exact ⟨by rw [he _ (by omega) (by omega)]; exact a1, by rw [he _ (by omega) (by omega)]; exact a2, by rw [he _ (by omega) (by omega)]; exact a3, by rw [he _ (by omega) (by omega)]; exact a4, fun i hi => by rw [he _ (by omega) (by omega)]; exact a5 i hi⟩
theorem RDI.rd {h : ax_H} (hS : RDI h) (tp : Nat → Int32) : RD h 0 tp :=
  ⟨⟨0, 0, hS.1⟩, by omega, ⟨_, hS.2.1, fun j hj => by omega⟩, hS.2.2.1, ⟨_, hS.2.2.2.1⟩, fun i hi => ⟨_, hS.2.2.2.2 i hi⟩, fun j hj => by omega⟩
set_option maxHeartbeats 400000 in
set_option maxRecDepth 100000 in
theorem cn_X3_init {h : ax_H} {n : Nat}  (h0 : h 119 = some (.inr (3, [.null, .int 0, .null, .int 0, .null, .int 0]))) (hn : n = 120) : ax_C yX3_init cX3_init 2 none 2 15 275 [.ref 119] h n (kP (fun h2 => RDI h2 ∧ ∀ j, j < 119 → h2 j = h j) 135) := by
  subst hn
  refine ax_C.go RX3 "<init>" [some (.ref 119), none] rfl rfl pn_X3 (lb rfl) rfl (fun l G cy bs => ?_)
  have lp : ∀ (d k : Nat), k + d = 12 → ∀ (h1 : ax_H) (f : Nat → Option Nat), h1 119 = some (eRd 0 0 0) → h1 120 = some (ax_B 140 (fun _ => 0)) → h1 121 = some (ax_R 3 12 f) → (∀ i, i < k → f i = some (123 + i)) → h1 122 = some (ax_I 3 (fun _ => 0)) → (∀ i, i < k → h1 (123 + i) = some (ePc (fun _ => 0))) → (∀ j, j < 119 → h1 j = h j) → ax_T l G cy bs (ax_rm 2 15 275) RX3 "<init>" cX3_init 2 none (kP (fun h2 => RDI h2 ∧ ∀ j, j < 119 → h2 j = h j) 135) 15 275 46 [some (.ref 119), some (.int (nI k))] [] h1 (123 + k) (3 + k) (155 + 10 * k) := by
    intro d
    induction d with
    | zero =>
      intro k hk h1 f c0 c1 c2 hf c3 cp hfr
      obtain rfl : k = 12 := by omega
      refine il1 dX3_init_46 ?_
      refine xt_bipush (12) dX3_init_47 rfl ?_
      refine xt_icmp_ge 71 dX3_init_49 rfl (fun _ => ?_) (fun q => absurd (nI_le (a := 12) (by omega) (by omega)) q)
      refine xt_ext (fun k => some (123 + k)) c2 (fun j hj => by rw [hf j hj]) ?_
      exact xt_ret dX3_init_71 rfl (lb rfl) (lb rfl) ⟨rfl, ⟨⟨hp_nt (by omega) c0, hp_nt (by omega) c1, hp_s _ _ _, hp_nt (by omega) c3, fun i hi => hp_nt (by omega) (cp i hi)⟩, fun j hj => by rw [hp_n _ _ (by omega)]; exact hfr j hj⟩, rfl⟩
    | succ d ih =>
      intro k hk h1 f c0 c1 c2 hf c3 cp hfr
      refine il1 dX3_init_46 ?_
      refine xt_bipush (12) dX3_init_47 rfl ?_
      refine xt_icmp_ge 71 dX3_init_49 rfl (fun q => absurd q (nI_ge (b := 12) (by omega) (by decide))) (fun _ => ?_)
      refine al0 dX3_init_52 ?_
      refine g_X3_21 dX3_init_53 c0 ?_
      refine il1 dX3_init_56 ?_
      refine nw_X3_19 dX3_init_57 ⟨by omega, by omega⟩ ?_
      refine xt_heq (congrArg (hp _ _) ePc_0) ?_
      refine xt_dup dX3_init_60 rfl ?_
      refine s_X3_35 dX3_init_61 cn_X2_init ⟨lb rfl, by omega, by omega, lb rfl⟩ ?_
      refine xt_aast3 (k) (hp_nt (by omega) c2) (by omega) rfl (by decide) (hp_s _ _ _) dX3_init_64 ?_
      refine inc1 (nI (k + 1)) dX3_init_65 (nI_1 _) (by decide) rfl ?_
      refine xt_goto 46 dX3_init_68 rfl ?_
      refine xt_wid (c2 := 3 + (k + 1)) (s2 := 155 + 10 * (k + 1)) (by omega) (by omega) ?_
      exact ih (k + 1) (by omega) _ _ (hp_nt (by omega) (hp_nt (by omega) c0)) (hp_nt (by omega) (hp_nt (by omega) c1)) (hp_s _ _ _) (va_row (g := fun i => 123 + i) hf) (hp_nt (by omega) (hp_nt (by omega) c3)) (fun i hi => by
        rcases (show i < k ∨ i = k by omega) with z | rfl
        · exact hp_nt (by omega) (hp_nt (by omega) (cp i z))
        · exact hp_nt (by omega) (hp_s _ _ _)) (fun j hj => by rw [hp_n _ _ (by omega), hp_n _ _ (by omega)]; exact hfr j hj)
  refine al0 dX3_init_0 ?_
  refine s_X3_3 dX3_init_1 ⟨lb rfl, lb rfl⟩ ?_
  refine al0 dX3_init_4 ?_
  refine xt_sipush (140) dX3_init_5 rfl ?_
  refine na_B 140 dX3_init_8 rfl (by decide) ⟨lb rfl, lb rfl⟩ ?_
  refine p_X3_9 dX3_init_10 (hp_nt (by omega) h0) ?_
  refine al0 dX3_init_13 ?_
  refine xt_iconst (0) dX3_init_14 rfl ?_
  refine p_X3_15 dX3_init_15 (hp_s _ _ _) ?_
  refine xt_eq (hp_hp _ _ _ _) ?_
  refine al0 dX3_init_18 ?_
  refine xt_bipush (12) dX3_init_19 rfl ?_
  refine na_X3_19 12 dX3_init_21 rfl (by decide) ⟨lb rfl, lb rfl⟩ ?_
  refine p_X3_21 dX3_init_24 (hp_nt (by omega) (hp_s _ _ _)) ?_
  refine al0 dX3_init_27 ?_
  refine xt_iconst (0) dX3_init_28 rfl ?_
  refine p_X3_25 dX3_init_29 (hp_s _ _ _) ?_
  refine xt_eq (hp_hp _ _ _ _) ?_
  refine al0 dX3_init_32 ?_
  refine xt_iconst (3) dX3_init_33 rfl ?_
  refine na_I 3 dX3_init_34 rfl (by decide) ⟨lb rfl, lb rfl⟩ ?_
  refine p_X3_28 dX3_init_36 (hp_nt (by omega) (hp_s _ _ _)) ?_
  refine al0 dX3_init_39 ?_
  refine xt_iconst (0) dX3_init_40 rfl ?_
  refine p_X3_32 dX3_init_41 (hp_s _ _ _) ?_
  refine xt_eq (hp_hp _ _ _ _) ?_
  refine xt_iconst (0) dX3_init_44 rfl ?_
  refine is1 dX3_init_45 (by decide) rfl ?_
  exact lp 12 0 (by omega) _ _ (hp_s _ _ _) (hp_nt (by omega) (hp_nt (by omega) (hp_nt (by omega) (hp_nt (by omega) (hp_nt (by omega) (hp_s _ _ _)))))) (hp_nt (by omega) (hp_nt (by omega) (hp_nt (by omega) (hp_s _ _ _)))) (fun i hi => by omega) (hp_nt (by omega) (hp_s _ _ _)) (fun i hi => by omega) (fun j hj => by rw [hp_n _ _ (by omega), hp_n _ _ (by omega), hp_n _ _ (by omega), hp_n _ _ (by omega), hp_n _ _ (by omega), hp_n _ _ (by omega)])
