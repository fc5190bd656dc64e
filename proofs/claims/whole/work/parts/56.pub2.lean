theorem CB.img {h h2 : ax_H} {r : Nat → Int32} {m : Nat} {R : Nat → Nat → Int32} {u : Nat} {im iu : Int32} {Wi : Nat → Nat → Int32} {t : Nat} {tp mn la : Nat → Int32} {it : Nat → Int64} {iu2 : Int32} {Wi2 : Nat → Nat → Int32} (hI : CB h r m R u im iu Wi t tp mn la it) (he : ∀ j, (j < 137 ∨ 251 ≤ j) → h2 j = h j) (hM : IM h2 1 iu2 Wi2) : CB (hp h2 0 (eX7 1)) r m R u (1) (iu2) (Wi2) t tp mn la it ∧ ∀ n, FM n h (hp h2 0 (eX7 1)) := by
  obtain ⟨a1, a2, a3, a4, a5, ⟨g, a6⟩, a7, a8⟩ := hI
  have hn : ∀ j, j ≠ 0 → hp h2 0 (eX7 1) j = h2 j := fun j hj => hp_n _ _ hj
  have hq : ∀ j, 0 < j → (j < 137 ∨ 251 ≤ j) → hp h2 0 (eX7 1) j = h j := fun j a b => (hn j (by omega)).trans (he j b)
  exact ⟨⟨hp_s _ _ _, a2.fr (fun j _ b => hq j (by omega) (by omega)), a3.fr (fun j _ b => hq j (by omega) (by omega)), a4.fr (fun j _ b => hq j (by omega) (by omega)), a5.fr (fun j _ b => hq j (by omega) (by omega)), ⟨g, by rw [hq _ (by omega) (by omega)]; exact a6⟩, hM.fr (fun j _ b => hn j (by omega)), a8.fr (fun j b => hq j (by omega) (by omega))⟩, fun n j a _ => hq j (by omega) (by omega)⟩
def imR2 (r : Nat → Int32) (R : Nat → Nat → Int32) : Nat → Nat → Int32 := fun i => if i = 0 then r else R (i - 1)
set_option maxHeartbeats 400000 in
set_option maxRecDepth 100000 in
theorem cr_X7_image {h : ax_H} {n : Nat} {r : Nat → Int32} {m : Nat} {R : Nat → Nat → Int32} {u : Nat} {im iu : Int32} {Wi : Nat → Nat → Int32} {t : Nat} {tp mn la : Nat → Int32} {it : Nat → Int64} (hI : CB h r m R u im iu Wi t tp mn la it)  : ax_C yX7_image cX7_image 1 (some .int) 3 0 0 [.ref 0] h n (kE (1) (fun h2 => CB h2 r m R u (1) (nI u) (imR2 r R) t tp mn la it ∧ FM n h h2) n) := by
  refine ax_C.go RX7 "image" [some (.ref 0)] rfl rfl pn_X7 (lb rfl) rfl (fun l G cy bs => ?_)
  obtain ⟨a0, hS, hA, hW, hRd, hG, hM, hH⟩ := (id hI : CB h _ _ _ _ _ _ _ _ _ _ _ _)
  obtain ⟨sp, pi, pp, nw, bz, hd, dw, k1, hP, ⟨s1, s2, s3, s4, s5, s6⟩, k4⟩ := (id hS : SR h 1 _ _)
  obtain ⟨⟨fs1, o1⟩, o17, ⟨fs6, o115⟩, hu6, hm12⟩ := CB.o hI
  have hbz := s5.b
  have him := hM.b
  obtain ⟨Ri, ui, m1, m2, m3⟩ := hM
  obtain ⟨fsi, oi⟩ := m2.o
  refine al0 dX7_image_0 ?_
  refine g_X7_49 dX7_image_1 a0 ?_
  refine al0 dX7_image_4 ?_
  refine g_X7_12 dX7_image_5 a0 ?_
  refine sP_X7_224 dX7_image_8 (cr_X5_copyFrom m2 hI.2.1 (by omega)) oi ⟨lb rfl, lb rfl, lb rfl, lb rfl⟩ ?_
  rintro h2 ⟨x1, x2⟩
  have m12 : PA h2 153 Ri ui := m1.fr (fun j a b => x2 j (by omega))
  have hA2 : PA h2 17 R u := hI.2.2.1.fr (fun j a b => x2 j (by omega))
  have a02 : h2 0 = some (eX7 im) := by rw [x2 _ (by omega)]; exact a0
  obtain ⟨kq, o153, -⟩ := (id m12 : PA h2 153 Ri ui)
  refine al0 dX7_image_11 ?_
  refine g_X7_52 dX7_image_12 a02 ?_
  refine al0 dX7_image_15 ?_
  refine g_X7_19 dX7_image_16 a02 ?_
  refine sP_X7_227 dX7_image_19 (cr_X1_copyFrom m12 hA2 (by omega)) o153 ⟨lb rfl, lb rfl, lb rfl, lb rfl⟩ ?_
  rintro h3 ⟨x3, x4⟩
  have a03 : h3 0 = some (eX7 im) := by rw [x4 _ (by omega)]; exact a02
  have hC := CB.img (h2 := h3) (iu2 := nI u) (Wi2 := imR2 r R) hI (fun j hj => (x4 j (by omega)).trans (x2 j (by omega))) ⟨R, u, x3, x1.sx.fr (fun j a b => x4 j (by omega)), Or.inr ⟨rfl, rfl, ⟨m, x1.fr (fun j a b => x4 j (by omega))⟩, fun i _ => by unfold imR2; rw [if_neg (by omega), Nat.add_sub_cancel_left]⟩⟩
  refine al0 dX7_image_22 ?_
  refine xt_iconst (1) dX7_image_23 rfl ?_
  refine p_X7_55 dX7_image_24 (Or.inr rfl) a03 ?_
  refine xt_iconst (1) dX7_image_27 rfl ?_
  exact xt_iret dX7_image_28 rfl (lb rfl) (lb rfl) ⟨rfl, ⟨hC.1, hC.2 n⟩, rfl⟩
set_option maxHeartbeats 400000 in
set_option maxRecDepth 100000 in
theorem cr_X7_restore_n {h : ax_H} {n : Nat} {r : Nat → Int32} {m : Nat} {R : Nat → Nat → Int32} {u : Nat} {im iu : Int32} {Wi : Nat → Nat → Int32} {t : Nat} {tp mn la : Nat → Int32} {it : Nat → Int64} (hI : CB h r m R u im iu Wi t tp mn la it) (hi0 : im = 0) : ax_C yX7_restore cX7_restore 1 (some .int) 3 0 0 [.ref 0] h n (kE ((-1000004)) (fun h2 => CB h2 r m R u im iu Wi t tp mn la it ∧ FM n h h2) n) := by
  refine ax_C.go RX7 "restore" [some (.ref 0)] rfl rfl pn_X7 (lb rfl) rfl (fun l G cy bs => ?_)
  obtain ⟨a0, hS, hA, hW, hRd, hG, hM, hH⟩ := (id hI : CB h _ _ _ _ _ _ _ _ _ _ _ _)
  obtain ⟨sp, pi, pp, nw, bz, hd, dw, k1, hP, ⟨s1, s2, s3, s4, s5, s6⟩, k4⟩ := (id hS : SR h 1 _ _)
  obtain ⟨⟨fs1, o1⟩, o17, ⟨fs6, o115⟩, hu6, hm12⟩ := CB.o hI
  have hbz := s5.b
  have him := hM.b
  refine al0 dX7_restore_0 ?_
  refine g_X7_55 dX7_restore_1 a0 ?_
  refine xt_if_ne 10 dX7_restore_4 rfl (fun q => absurd hi0 q) (fun _ => ?_)
  refine k_X7_87 dX7_restore_7 ?_
  exact xt_iret dX7_restore_9 rfl (lb rfl) (lb rfl) ⟨rfl, ⟨hI, FM_rf⟩, rfl⟩
set_option maxHeartbeats 400000 in
set_option maxRecDepth 100000 in
theorem cr_X7_restore {h : ax_H} {n : Nat} {r : Nat → Int32} {m : Nat} {R : Nat → Nat → Int32} {u : Nat} {ui : Nat} {Wi : Nat → Nat → Int32} {t : Nat} {tp mn la : Nat → Int32} {it : Nat → Int64} (hI : CB h r m R u (1) (nI ui) Wi t tp mn la it) (hui : ui < 1000) : ax_C yX7_restore cX7_restore 1 (some .int) 3 0 0 [.ref 0] h n (kE (1) (fun h2 => ∃ m2, CB h2 (Wi 0) (m2) (fun i => Wi (1 + i)) (ui) (1) (nI ui) Wi t tp mn la it ∧ FM n h h2) n) := by
  refine ax_C.go RX7 "restore" [some (.ref 0)] rfl rfl pn_X7 (lb rfl) rfl (fun l G cy bs => ?_)
  obtain ⟨a0, hS, hA, hW, hRd, hG, hM, hH⟩ := (id hI : CB h _ _ _ _ _ _ _ _ _ _ _ _)
  obtain ⟨sp, pi, pp, nw, bz, hd, dw, k1, hP, ⟨s1, s2, s3, s4, s5, s6⟩, k4⟩ := (id hS : SR h 1 _ _)
  obtain ⟨⟨fs1, o1⟩, o17, ⟨fs6, o115⟩, hu6, hm12⟩ := CB.o hI
  have hbz := s5.b
  have him := hM.b
  obtain ⟨Ri, ui2, m1, m2, m3⟩ := hM
  obtain ⟨q1, q2, ⟨mi, q3⟩, q4⟩ : (1 : Int32) = 1 ∧ nI ui = nI ui2 ∧ (∃ m, SR h 137 (Wi 0) m) ∧ ∀ i, i < ui2 → Ri i = Wi (1 + i) := by
    rcases m3 with z | z
    · exact absurd z.1 (by decide)
    · exact z
  obtain rfl : ui = ui2 := by
    have : ui2 ≤ 6 := by obtain ⟨_, _, _, q, -⟩ := m1; exact q
    exact (nI_eq (by omega) (by omega)).mp q2
  refine al0 dX7_restore_0 ?_
  refine g_X7_55 dX7_restore_1 a0 ?_
  refine xt_if_ne 10 dX7_restore_4 rfl (fun _ => ?_) (fun q => absurd q (by decide))
  refine al0 dX7_restore_10 ?_
  refine g_X7_12 dX7_restore_11 a0 ?_
  refine al0 dX7_restore_14 ?_
  refine g_X7_49 dX7_restore_15 a0 ?_
  refine sP_X7_224 dX7_restore_18 (cr_X5_copyFrom hI.2.1.sx q3 (by omega)) o1 ⟨lb rfl, lb rfl, lb rfl, lb rfl⟩ ?_
  rintro h2 ⟨x1, x2⟩
  have hI2 := hI.st x1 x2
  obtain ⟨a02, hS2, hA2, hW2, hRd2, hG2, hM2, hH2⟩ := (id hI2 : CB h2 _ _ _ _ _ _ _ _ _ _ _ _)
  obtain ⟨sp2, pi2, pp2, nw2, bz2, hd2, dw2, k12, hP2, ⟨s12, s22, s32, s42, s52, s62⟩, k42⟩ := (id hS2 : SR h2 1 _ _)
  obtain ⟨⟨fs12, o12⟩, o172, ⟨fs62, o1152⟩, hu62, hm122⟩ := CB.o hI2
  have hbz2 := s52.b
  have him2 := hM2.b
  have m12 : PA h2 153 Ri ui := m1.fr (fun j a b => x2 j (by omega))
  refine al0 dX7_restore_21 ?_
  refine g_X7_19 dX7_restore_22 a02 ?_
  refine al0 dX7_restore_25 ?_
  refine g_X7_52 dX7_restore_26 a02 ?_
  refine sP_X7_227 dX7_restore_29 (cr_X1_copyFrom hI2.2.2.1 m12 (by omega)) o172 ⟨lb rfl, lb rfl, lb rfl, lb rfl⟩ ?_
  rintro h3 ⟨x3, x4⟩
  have hI3 := hI2.pa (PA_congr (R2 := fun i => Wi (1 + i)) (fun i hi => (q4 i hi).symm) x3) x4
  refine xt_iconst (1) dX7_restore_32 rfl ?_
  exact xt_iret dX7_restore_33 rfl (lb rfl) (lb rfl) ⟨rfl, ⟨mi, hI3, FM_tr (FM_fr (by omega) x2) (FM_fr (by omega) x4)⟩, rfl⟩
theorem i2c_id {x : Int32} (h : 32 ≤ x ∧ x ≤ 126) : (x.toUInt32 % 65536).toInt32 = x ∧ vp_nar .char x = x := by
  obtain ⟨j, h1, h2⟩ := nI_of (x := x) (by have := h.1; rw [fb_le] at this; rw [fb_lt, ti_0]; have e : (32 : Int32).toInt = 32 := by decide
                                           omega)
  have hj : j < 127 := by
    have := h.2
    rw [h2, fb_le, nI_toInt h1] at this
    have e : (126 : Int32).toInt = 126 := by decide
    omega
  have key : ∀ j, j < 127 → ((nI j).toUInt32 % 65536).toInt32 = nI j ∧ vp_nar .char (nI j) = nI j := by decide +kernel
  rw [h2]; exact key j hj
set_option maxHeartbeats 400000 in
set_option maxRecDepth 100000 in
theorem cn_X3_append {h : ax_H} {n : Nat}  {t : Nat} {fo aT : Int32} {g : Nat → Int32} (h0 : h 119 = some (eRd (nI t) fo aT)) (h1 : h 120 = some (ax_B 140 g)) (x : Int32) (ht : t < 140) : ax_C yX3_append cX3_append 2 (some .boolean) 0 0 0 [.ref 119, .int x] h n (ki 1 (hp (hp h 120 (ax_B 140 (upd g t (vp_nar .char x)))) 119 (eRd (nI (t + 1)) fo aT)) n) := by
  refine ax_C.go RX3 "append" [some (.ref 119), some (.int x)] rfl rfl pn_X3 (lb rfl) rfl (fun l G cy bs => ?_)
  refine al0 dX3_append_0 ?_
  refine g_X3_15 dX3_append_1 h0 ?_
  refine xt_sipush (140) dX3_append_4 rfl ?_
  refine xt_icmp_lt 12 dX3_append_7 rfl (fun _ => ?_) (fun q => absurd (nI_lt (b := 140) ht (by decide)) q)
  refine al0 dX3_append_12 ?_
  refine g_X3_9 dX3_append_13 h0 ?_
  refine al0 dX3_append_16 ?_
  refine g_X3_15 dX3_append_17 h0 ?_
  refine il1 dX3_append_20 ?_
  refine xt_cast (t) h1 (by omega) rfl (by decide) dX3_append_21 ?_
  refine al0 dX3_append_22 ?_
  refine xt_dup dX3_append_23 rfl ?_
  refine g_X3_15 dX3_append_24 (hp_nt (by omega) h0) ?_
  refine xt_iconst (1) dX3_append_27 rfl ?_
  refine xt_iadd dX3_append_28 ?_
  refine xt_eqv (nI (t + 1)) (nI_1 _) ?_
  refine p_X3_15 dX3_append_29 (hp_nt (by omega) h0) ?_
  refine xt_iconst (1) dX3_append_32 rfl ?_
  exact xt_zret dX3_append_33 rfl (Or.inr rfl) (lb rfl) (lb rfl) ⟨rfl, rfl, rfl⟩
set_option maxHeartbeats 400000 in
set_option maxRecDepth 100000 in
theorem cn_X3_append_f {h : ax_H} {n : Nat}  {fo aT : Int32} {g : Nat → Int32} (h0 : h 119 = some (eRd (nI 140) fo aT)) (h1 : h 120 = some (ax_B 140 g)) (x : Int32) : ax_C yX3_append cX3_append 2 (some .boolean) 0 0 0 [.ref 119, .int x] h n (ki 0 h n) := by
  refine ax_C.go RX3 "append" [some (.ref 119), some (.int x)] rfl rfl pn_X3 (lb rfl) rfl (fun l G cy bs => ?_)
  refine al0 dX3_append_0 ?_
  refine g_X3_15 dX3_append_1 h0 ?_
  refine xt_sipush (140) dX3_append_4 rfl ?_
  refine xt_icmp_lt 12 dX3_append_7 rfl (fun q => absurd q (by decide)) (fun _ => ?_)
  refine xt_iconst (0) dX3_append_10 rfl ?_
  exact xt_zret dX3_append_11 rfl (Or.inl rfl) (lb rfl) (lb rfl) ⟨rfl, rfl, rfl⟩
set_option maxHeartbeats 400000 in
set_option maxRecDepth 100000 in
theorem cr_X7_type_b {h : ax_H} {n : Nat} {r : Nat → Int32} {m : Nat} {R : Nat → Nat → Int32} {u : Nat} {im iu : Int32} {Wi : Nat → Nat → Int32} {t : Nat} {tp mn la : Nat → Int32} {it : Nat → Int64} (hI : CB h r m R u im iu Wi t tp mn la it) (x : Int32) (hx : ¬ (32 ≤ x ∧ x ≤ 126)) : ax_C yX7_type cX7_type 2 (some .int) 1 0 0 [.ref 0, .int x] h n (kE ((-1000001)) (fun h2 => CB h2 r m R u im iu Wi t tp mn la it ∧ FM n h h2) n) := by
  refine ax_C.go RX7 "type" [some (.ref 0), some (.int x)] rfl rfl pn_X7 (lb rfl) rfl (fun l G cy bs => ?_)
  obtain ⟨a0, hS, hA, hW, hRd, hG, hM, hH⟩ := (id hI : CB h _ _ _ _ _ _ _ _ _ _ _ _)
  obtain ⟨sp, pi, pp, nw, bz, hd, dw, k1, hP, ⟨s1, s2, s3, s4, s5, s6⟩, k4⟩ := (id hS : SR h 1 _ _)
  obtain ⟨⟨fs1, o1⟩, o17, ⟨fs6, o115⟩, hu6, hm12⟩ := CB.o hI
  have hbz := s5.b
  have him := hM.b
  refine il1 dX7_type_0 ?_
  refine xt_bipush (32) dX7_type_1 rfl ?_
  refine xt_icmp_lt 12 dX7_type_3 rfl (fun c3 => ?_) (fun c3 => ?_)
  · refine k_X7_64 dX7_type_12 ?_
    exact xt_iret dX7_type_14 rfl (lb rfl) (lb rfl) ⟨rfl, ⟨hI, FM_rf⟩, rfl⟩
  · refine il1 dX7_type_6 ?_
    refine xt_bipush (126) dX7_type_7 rfl ?_
    refine xt_icmp_le 15 dX7_type_9 rfl (fun q => absurd q (fun z => hx ⟨Classical.byContradiction (fun y => c3 (by rw [fb_lt]; rw [fb_le] at y; omega)), z⟩)) (fun _ => ?_)
    refine k_X7_64 dX7_type_12 ?_
    exact xt_iret dX7_type_14 rfl (lb rfl) (lb rfl) ⟨rfl, ⟨hI, FM_rf⟩, rfl⟩
set_option maxHeartbeats 400000 in
set_option maxRecDepth 100000 in
theorem cr_X7_type_f {h : ax_H} {n : Nat} {r : Nat → Int32} {m : Nat} {R : Nat → Nat → Int32} {u : Nat} {im iu : Int32} {Wi : Nat → Nat → Int32} {t : Nat} {tp mn la : Nat → Int32} {it : Nat → Int64} (hI : CB h r m R u im iu Wi t tp mn la it) (x : Int32) (hx : 32 ≤ x ∧ x ≤ 126) (ht : t = 140) : ax_C yX7_type cX7_type 2 (some .int) 1 0 0 [.ref 0, .int x] h n (kE ((-1000003)) (fun h2 => CB h2 r m R u im iu Wi t tp mn la it ∧ FM n h h2) n) := by
  refine ax_C.go RX7 "type" [some (.ref 0), some (.int x)] rfl rfl pn_X7 (lb rfl) rfl (fun l G cy bs => ?_)
  obtain ⟨a0, hS, hA, hW, hRd, hG, hM, hH⟩ := (id hI : CB h _ _ _ _ _ _ _ _ _ _ _ _)
  obtain ⟨sp, pi, pp, nw, bz, hd, dw, k1, hP, ⟨s1, s2, s3, s4, s5, s6⟩, k4⟩ := (id hS : SR h 1 _ _)
  obtain ⟨⟨fs1, o1⟩, o17, ⟨fs6, o115⟩, hu6, hm12⟩ := CB.o hI
  have hbz := s5.b
  have him := hM.b
  obtain ⟨⟨fo, aT, r1⟩, r2, ⟨g, r3, r3b⟩, r4, r5, r6, r7⟩ := hRd
  subst ht
  refine il1 dX7_type_0 ?_
  refine xt_bipush (32) dX7_type_1 rfl ?_
  refine xt_icmp_lt 12 dX7_type_3 rfl (fun q => absurd q (fun z => by have := hx.1; rw [fb_lt] at z; rw [fb_le] at this; omega)) (fun _ => ?_)
  refine il1 dX7_type_6 ?_
  refine xt_bipush (126) dX7_type_7 rfl ?_
  refine xt_icmp_le 15 dX7_type_9 rfl (fun _ => ?_) (fun q => absurd hx.2 q)
  refine al0 dX7_type_15 ?_
  refine g_X7_35 dX7_type_16 a0 ?_
  refine il1 dX7_type_19 ?_
  refine xt_i2c dX7_type_20 ?_
  refine xt_eqv x (i2c_id hx).1 ?_
  refine s_X7_88 dX7_type_21 (cn_X3_append_f r1 r3 x) r1 ⟨lb rfl, lb rfl, lb rfl, lb rfl⟩ ?_
  refine xt_if_eq 37 dX7_type_24 rfl (fun _ => ?_) (fun q => absurd rfl q)
  refine k_X7_95 dX7_type_37 ?_
  exact xt_iret dX7_type_39 rfl (lb rfl) (lb rfl) ⟨rfl, ⟨hI, FM_rf⟩, rfl⟩
theorem RD_app {h : ax_H} {t : Nat} {tp : Nat → Int32} {fo aT x : Int32} {g : Nat → Int32} (hR : RD h t tp) (r1 : h 119 = some (eRd (nI t) fo aT)) (r3 : h 120 = some (ax_B 140 g)) (r3b : ∀ j, j < t → g j = tp j) (ht : t < 140) (hx : 32 ≤ x ∧ x ≤ 126) : RD (hp (hp h 120 (ax_B 140 (upd g t (vp_nar .char x)))) 119 (eRd (nI (t + 1)) fo aT)) (t + 1) (upd tp t x) ∧ fr 119 16 h (hp (hp h 120 (ax_B 140 (upd g t (vp_nar .char x)))) 119 (eRd (nI (t + 1)) fo aT)) := by
  obtain ⟨-, -, -, r4, ⟨f, r5⟩, r6, r7⟩ := hR
  refine ⟨⟨⟨fo, aT, hp_s _ _ _⟩, by omega, ⟨_, hp_nt (by omega) (hp_s _ _ _), fun j hj => ?_⟩, hp_nt (by omega) (hp_nt (by omega) r4), ⟨f, hp_nt (by omega) (hp_nt (by omega) r5)⟩, fun i hi => ?_, fun j hj => ?_⟩, fun j hj => by rw [hp_n _ _ (by omega), hp_n _ _ (by omega)]⟩
  · simp only [upd]
    by_cases e : j = t
    · rw [if_pos e, if_pos e]; exact (i2c_id hx).2
    · rw [if_neg e, if_neg e]; exact r3b j (by omega)
  · obtain ⟨q, e⟩ := r6 i hi
    exact ⟨q, hp_nt (by omega) (hp_nt (by omega) e)⟩
  · simp only [upd]
    by_cases e : j = t
    · rw [if_pos e]; exact hx
    · rw [if_neg e]; exact r7 j (by omega)
set_option maxHeartbeats 400000 in
set_option maxRecDepth 100000 in
theorem cr_X7_type {h : ax_H} {n : Nat} {r : Nat → Int32} {m : Nat} {R : Nat → Nat → Int32} {u : Nat} {im iu : Int32} {Wi : Nat → Nat → Int32} {t : Nat} {tp mn la : Nat → Int32} {it : Nat → Int64} (hI : CB h r m R u im iu Wi t tp mn la it) (x : Int32) (hx : 32 ≤ x ∧ x ≤ 126) (ht : t < 140) : ax_C yX7_type cX7_type 2 (some .int) 1 0 0 [.ref 0, .int x] h n (kE (nI (t + 1)) (fun h2 => CB h2 r m R u im iu Wi (t + 1) (upd tp t x) mn la it ∧ FM n h h2) n) := by
  refine ax_C.go RX7 "type" [some (.ref 0), some (.int x)] rfl rfl pn_X7 (lb rfl) rfl (fun l G cy bs => ?_)
  obtain ⟨a0, hS, hA, hW, hRd, hG, hM, hH⟩ := (id hI : CB h _ _ _ _ _ _ _ _ _ _ _ _)
  obtain ⟨sp, pi, pp, nw, bz, hd, dw, k1, hP, ⟨s1, s2, s3, s4, s5, s6⟩, k4⟩ := (id hS : SR h 1 _ _)
  obtain ⟨⟨fs1, o1⟩, o17, ⟨fs6, o115⟩, hu6, hm12⟩ := CB.o hI
  have hbz := s5.b
  have him := hM.b
  obtain ⟨⟨fo, aT, r1⟩, r2, ⟨g, r3, r3b⟩, r4, r5, r6, r7⟩ := hRd
  refine il1 dX7_type_0 ?_
  refine xt_bipush (32) dX7_type_1 rfl ?_
  refine xt_icmp_lt 12 dX7_type_3 rfl (fun q => absurd q (fun z => by have := hx.1; rw [fb_lt] at z; rw [fb_le] at this; omega)) (fun _ => ?_)
  refine il1 dX7_type_6 ?_
  refine xt_bipush (126) dX7_type_7 rfl ?_
  refine xt_icmp_le 15 dX7_type_9 rfl (fun _ => ?_) (fun q => absurd hx.2 q)
  refine al0 dX7_type_15 ?_
  refine g_X7_35 dX7_type_16 a0 ?_
  refine il1 dX7_type_19 ?_
  refine xt_i2c dX7_type_20 ?_
  refine xt_eqv x (i2c_id hx).1 ?_
  refine s_X7_88 dX7_type_21 (cn_X3_append r1 r3 x ht) r1 ⟨lb rfl, lb rfl, lb rfl, lb rfl⟩ ?_
  refine xt_if_eq 37 dX7_type_24 rfl (fun q => absurd q (by decide)) (fun _ => ?_)
  refine al0 dX7_type_27 ?_
  refine g_X7_35 dX7_type_28 (hp_nt (by omega) (hp_nt (by omega) a0)) ?_
  refine g_X7_92 dX7_type_31 (hp_s _ _ _) ?_
  refine xt_goto 39 dX7_type_34 rfl ?_
  exact xt_iret dX7_type_39 rfl (lb rfl) (lb rfl) ⟨rfl, ⟨hI.rd (RD_app hI.2.2.2.2.1 r1 r3 r3b ht hx).1 (RD_app hI.2.2.2.2.1 r1 r3 r3b ht hx).2, FM_fr (by omega) (RD_app hI.2.2.2.2.1 r1 r3 r3b ht hx).2⟩, rfl⟩
theorem SHS_put {h h2 : ax_H} {mn la mn2 la2 : Nat → Int32} {it it2 : Nat → Int64} {s : Nat} (hH : SHS h mn la it) (hs : s < 4) (he : fr (251 + 2 * s) 2 h h2) (hnew : SH1 h2 s mn2 la2 it2) (hm : ∀ k, k < 4 → k ≠ s → mn2 k = mn k ∧ la2 k = la k ∧ ∀ i, i < 24 → it2 (24 * k + i) = it (24 * k + i)) : SHS h2 mn2 la2 it2 ∧ fr 251 8 h h2 := by
  refine ⟨⟨by rw [he _ (by omega)]; exact hH.1, fun k hk => ?_⟩, fun j hj => he j (by omega)⟩
  by_cases e : k = s
  · subst e; exact hnew
  · obtain ⟨q1, q2, q3⟩ := hm k hk e
    obtain ⟨th, l, z, f, h1, h3, h4⟩ := (hH.2 k hk).fr (h2 := h2) (fun j a b => he j (by omega))
    refine ⟨th, l, z, f, h1, h3, ?_⟩
    rcases h4 with ⟨z1, z2⟩ | ⟨z1, z, z2, z3, z4, z5, z6⟩
    · exact Or.inl ⟨z1, by rw [q1]; exact z2⟩
    · exact Or.inr ⟨z1, z, z2, z3, by rw [q1]; exact z4, by rw [q2]; exact z5, fun i hi => by rw [q3 i hi]; exact z6 i hi⟩
theorem vpL (f : Nat → Int64) (k : Nat) (v : Int64) (j : Nat) : vp_updL f k v j = if j = k then v else f j := rfl
theorem zIt_out (it : Nat → Int64) (s : Nat) : ∀ k, k ≤ 24 → ∀ j, (j < 24 * s ∨ 24 * s + 24 ≤ j) → zIt it s k j = it j
  | 0, _, j, _ => rfl
  | k + 1, hk, j, hj => by rw [zIt_s, vpL, if_neg (by omega)]; exact zIt_out it s k (by omega) j hj
theorem zIt_in (it : Nat → Int64) (s : Nat) : ∀ k i, i < k → zIt it s k (24 * s + i) = 0
  | 0, i, h => absurd h (by omega)
  | k + 1, i, h => by
    rw [zIt_s, vpL]
    by_cases e : i = k
    · rw [if_pos (by omega)]
    · rw [if_neg (by omega)]; exact zIt_in it s k i (by omega)
theorem t24 : (24 : Int32).toInt = 24 := by decide
theorem z24 {z : Int32} (h1 : z ≤ 24) (h2 : 0 ≤ z) : ∃ k : Nat, k ≤ 24 ∧ z = nI k := by
  obtain ⟨j, a, b⟩ := nI_of (x := z) (by rw [fb_le, ti_0] at h2; rw [fb_lt, ti_0]; omega)
  refine ⟨j, ?_, b⟩
  rw [b, fb_le, t24, nI_toInt a] at h1; omega
/-- the class's refusal is the reference's -/
theorem rf_ag {h : ax_H} {s : Nat} {mn la : Nat → Int32} {it : Nat → Int64} {th l z : Int32} {f : Nat → Int64} (e2 : (th = 0 ∧ mn s = -1) ∨ (th = 1 ∧ ∃ k : Nat, k ≤ 24 ∧ z = nI k ∧ mn s = nI k ∧ la s = l ∧ ∀ i, i < 24 → f i = it (24 * s + i))) (lane i y : Int32) : rfV th l z lane i y = agV mn la s lane i y := by
  unfold rfV agV
  rcases e2 with ⟨rfl, q⟩ | ⟨rfl, k, hk, rfl, q1, q2, -⟩
  · rw [if_pos rfl, if_neg (by rw [q]; decide)]
  · rw [if_neg (by decide), q1, if_pos (nI_pos' (by omega)), q2]
    by_cases hl : l = lane
    · rw [if_pos hl, if_pos hl]
      unfold hoV
      by_cases hi : i < 0
      · rw [if_pos hi]
        by_cases hy : y < 0
        · rw [if_pos hy, if_pos rfl, if_pos hi]
        · rw [if_neg hy, if_pos hi, if_pos rfl]
      · rw [if_neg hi]
        by_cases hy : y < 0
        · rw [if_pos hy, if_pos hy, if_pos rfl, if_neg hi]
        · rw [if_neg hy, if_neg hi, if_neg hy]
          obtain ⟨a, a1, rfl⟩ := nI_of hi
          obtain ⟨b, b1, rfl⟩ := nI_of hy
          have e1 : (nI k - nI b).toInt = (k : Int) - b := by
            rw [Int32.toInt_sub, nI_toInt (by omega), nI_toInt b1]; apply Int.bmod_eq_of_le <;> omega
          have e3 : ((nI a).toInt64 + (nI b).toInt64).toInt = (a : Int) + b := by
            rw [Int64.toInt_add, Int32.toInt_toInt64, Int32.toInt_toInt64, nI_toInt a1, nI_toInt b1]; apply Int.bmod_eq_of_le <;> omega
          have hc : (nI k - nI b < nI a) ↔ ¬ lg_cmp ((nI a).toInt64 + (nI b).toInt64) (nI k).toInt64 ≤ 0 := by
            rw [Int32.not_le, lc_gt, Int64.lt_iff_toInt_lt, e3, Int32.toInt_toInt64, nI_toInt (by omega), fb_lt, e1, nI_toInt a1]
            omega
          by_cases hq : nI k - nI b < nI a
          · rw [if_pos hq, if_pos rfl, if_neg (hc.mp hq)]
          · rw [if_neg hq, if_neg (by decide), if_pos (Classical.byContradiction (fun z => hq (hc.mpr z)))]
    · rw [if_neg hl, if_neg hl]
/-- where the reference finds nothing against it -/
theorem ag_nat {mn la : Nat → Int32} {s y : Nat} {lane i : Int32} {k : Nat} (hk : k ≤ 24) (hy : y < 1000) (hm : mn s = nI k) (h : agV mn la s lane i (nI y) = 0) : la s = lane ∧ ∃ a : Nat, i = nI a ∧ a + y ≤ k := by
  unfold agV at h
  rw [hm, if_pos (nI_pos' (by omega))] at h
  by_cases hl : la s = lane
  · rw [if_pos hl] at h
    by_cases hi : i < 0
    · rw [if_pos hi] at h; exact absurd h (by decide)
    · rw [if_neg hi, if_neg (nI_pos (by omega))] at h
      obtain ⟨a, a1, rfl⟩ := nI_of hi
      have e3 : ((nI a).toInt64 + (nI y).toInt64).toInt = (a : Int) + y := by
        rw [Int64.toInt_add, Int32.toInt_toInt64, Int32.toInt_toInt64, nI_toInt a1, nI_toInt (by omega)]; apply Int.bmod_eq_of_le <;> omega
      by_cases hq : lg_cmp ((nI a).toInt64 + (nI y).toInt64) (nI k).toInt64 ≤ 0
      · refine ⟨hl, a, rfl, ?_⟩
        have : ¬ (nI k).toInt64 < (nI a).toInt64 + (nI y).toInt64 := fun z => by
          have := (lc_gt ((nI a).toInt64 + (nI y).toInt64) (nI k).toInt64).mpr z
          rw [fb_lt, ti_0] at this; rw [fb_le, ti_0] at hq; omega
        rw [Int64.lt_iff_toInt_lt, e3, Int32.toInt_toInt64, nI_toInt (by omega)] at this
        omega
      · rw [if_neg hq] at h; exact absurd h (by decide)
  · rw [if_neg hl] at h; exact absurd h (by decide)
theorem sh_there {h : ax_H} {s : Nat} {mn la : Nat → Int32} {it : Nat → Int64} {th l z : Int32} {f : Nat → Int64} (e2 : (th = 0 ∧ mn s = -1) ∨ (th = 1 ∧ ∃ k : Nat, k ≤ 24 ∧ z = nI k ∧ mn s = nI k ∧ la s = l ∧ ∀ i, i < 24 → f i = it (24 * s + i))) {lane i y : Int32} (hg : agV mn la s lane i y = 0) : th = 1 ∧ ∃ k : Nat, k ≤ 24 ∧ z = nI k ∧ mn s = nI k ∧ la s = l ∧ ∀ i, i < 24 → f i = it (24 * s + i) := by
  rcases e2 with ⟨-, q⟩ | q
  · unfold agV at hg
    rw [if_neg (by rw [q]; decide)] at hg
    exact absurd hg (by decide)
  · exact q
set_option maxHeartbeats 400000 in
set_option maxRecDepth 100000 in
theorem cr_X7_sheet_b1 {h : ax_H} {n : Nat} {r : Nat → Int32} {m : Nat} {R : Nat → Nat → Int32} {u : Nat} {im iu : Int32} {Wi : Nat → Nat → Int32} {t : Nat} {tp mn la : Nat → Int32} {it : Nat → Int64} (hI : CB h r m R u im iu Wi t tp mn la it) (x lane z : Int32) (hx : ¬ (0 ≤ x ∧ x ≤ 3)) : ax_C yX7_sheet cX7_sheet 4 (some .int) 1 0 0 [.ref 0, .int x, .int lane, .int z] h n (kE ((-1000001)) (fun h2 => CB h2 r m R u im iu Wi t tp mn la it ∧ FM n h h2) n) := by
  refine ax_C.go RX7 "sheet" [some (.ref 0), some (.int x), some (.int lane), some (.int z)] rfl rfl pn_X7 (lb rfl) rfl (fun l G cy bs => ?_)
  obtain ⟨a0, hS, hA, hW, hRd, hG, hM, hH⟩ := (id hI : CB h _ _ _ _ _ _ _ _ _ _ _ _)
  obtain ⟨sp, pi, pp, nw, bz, hd, dw, k1, hP, ⟨s1, s2, s3, s4, s5, s6⟩, k4⟩ := (id hS : SR h 1 _ _)
  obtain ⟨⟨fs1, o1⟩, o17, ⟨fs6, o115⟩, hu6, hm12⟩ := CB.o hI
  have hbz := s5.b
  have him := hM.b
  refine il1 dX7_sheet_0 ?_
  refine s_X7_230 dX7_sheet_1 (cn_X7_isSheet _) ⟨lb rfl, lb rfl, lb rfl, lb rfl⟩ ?_
  refine xt_if_eq 20 dX7_sheet_4 rfl (fun _ => ?_) (fun q => absurd (fl0 (ax4 hx)) q)
  refine k_X7_64 dX7_sheet_20 ?_
  exact xt_iret dX7_sheet_22 rfl (lb rfl) (lb rfl) ⟨rfl, ⟨hI, FM_rf⟩, rfl⟩
set_option maxHeartbeats 400000 in
set_option maxRecDepth 100000 in
theorem cr_X7_sheet_b2 {h : ax_H} {n : Nat} {r : Nat → Int32} {m : Nat} {R : Nat → Nat → Int32} {u : Nat} {im iu : Int32} {Wi : Nat → Nat → Int32} {t : Nat} {tp mn la : Nat → Int32} {it : Nat → Int64} (hI : CB h r m R u im iu Wi t tp mn la it) (x lane z : Int32) (hx : 0 ≤ x ∧ x ≤ 3) (hl : ¬ (0 ≤ lane ∧ lane ≤ 3)) : ax_C yX7_sheet cX7_sheet 4 (some .int) 1 0 0 [.ref 0, .int x, .int lane, .int z] h n (kE ((-1000001)) (fun h2 => CB h2 r m R u im iu Wi t tp mn la it ∧ FM n h h2) n) := by
  refine ax_C.go RX7 "sheet" [some (.ref 0), some (.int x), some (.int lane), some (.int z)] rfl rfl pn_X7 (lb rfl) rfl (fun l G cy bs => ?_)
  obtain ⟨a0, hS, hA, hW, hRd, hG, hM, hH⟩ := (id hI : CB h _ _ _ _ _ _ _ _ _ _ _ _)
  obtain ⟨sp, pi, pp, nw, bz, hd, dw, k1, hP, ⟨s1, s2, s3, s4, s5, s6⟩, k4⟩ := (id hS : SR h 1 _ _)
  obtain ⟨⟨fs1, o1⟩, o17, ⟨fs6, o115⟩, hu6, hm12⟩ := CB.o hI
  have hbz := s5.b
  have him := hM.b
  refine il1 dX7_sheet_0 ?_
  refine s_X7_230 dX7_sheet_1 (cn_X7_isSheet _) ⟨lb rfl, lb rfl, lb rfl, lb rfl⟩ ?_
  refine xt_if_eq 20 dX7_sheet_4 rfl (fun q => absurd q (fl1 (ax4' hx))) (fun _ => ?_)
  refine il2 dX7_sheet_7 ?_
  refine s_X7_233 dX7_sheet_8 (cn_X7_isLane _) ⟨lb rfl, lb rfl, lb rfl, lb rfl⟩ ?_
  refine xt_if_eq 20 dX7_sheet_11 rfl (fun _ => ?_) (fun q => absurd (fl0 (ax4 hl)) q)
  refine k_X7_64 dX7_sheet_20 ?_
  exact xt_iret dX7_sheet_22 rfl (lb rfl) (lb rfl) ⟨rfl, ⟨hI, FM_rf⟩, rfl⟩
set_option maxHeartbeats 400000 in
set_option maxRecDepth 100000 in
theorem cr_X7_sheet_b3 {h : ax_H} {n : Nat} {r : Nat → Int32} {m : Nat} {R : Nat → Nat → Int32} {u : Nat} {im iu : Int32} {Wi : Nat → Nat → Int32} {t : Nat} {tp mn la : Nat → Int32} {it : Nat → Int64} (hI : CB h r m R u im iu Wi t tp mn la it) (x lane z : Int32) (hx : 0 ≤ x ∧ x ≤ 3) (hl : 0 ≤ lane ∧ lane ≤ 3) (hz : ¬ z ≤ 24) : ax_C yX7_sheet cX7_sheet 4 (some .int) 1 0 0 [.ref 0, .int x, .int lane, .int z] h n (kE ((-1000001)) (fun h2 => CB h2 r m R u im iu Wi t tp mn la it ∧ FM n h h2) n) := by
  refine ax_C.go RX7 "sheet" [some (.ref 0), some (.int x), some (.int lane), some (.int z)] rfl rfl pn_X7 (lb rfl) rfl (fun l G cy bs => ?_)
  obtain ⟨a0, hS, hA, hW, hRd, hG, hM, hH⟩ := (id hI : CB h _ _ _ _ _ _ _ _ _ _ _ _)
  obtain ⟨sp, pi, pp, nw, bz, hd, dw, k1, hP, ⟨s1, s2, s3, s4, s5, s6⟩, k4⟩ := (id hS : SR h 1 _ _)
  obtain ⟨⟨fs1, o1⟩, o17, ⟨fs6, o115⟩, hu6, hm12⟩ := CB.o hI
  have hbz := s5.b
  have him := hM.b
  refine il1 dX7_sheet_0 ?_
  refine s_X7_230 dX7_sheet_1 (cn_X7_isSheet _) ⟨lb rfl, lb rfl, lb rfl, lb rfl⟩ ?_
  refine xt_if_eq 20 dX7_sheet_4 rfl (fun q => absurd q (fl1 (ax4' hx))) (fun _ => ?_)
  refine il2 dX7_sheet_7 ?_
  refine s_X7_233 dX7_sheet_8 (cn_X7_isLane _) ⟨lb rfl, lb rfl, lb rfl, lb rfl⟩ ?_
  refine xt_if_eq 20 dX7_sheet_11 rfl (fun q => absurd q (fl1 (ax4' hl))) (fun _ => ?_)
  refine il3 dX7_sheet_14 ?_
  refine xt_bipush (24) dX7_sheet_15 rfl ?_
  refine xt_icmp_le 23 dX7_sheet_17 rfl (fun q => absurd q hz) (fun _ => ?_)
  refine k_X7_64 dX7_sheet_20 ?_
  exact xt_iret dX7_sheet_22 rfl (lb rfl) (lb rfl) ⟨rfl, ⟨hI, FM_rf⟩, rfl⟩
set_option maxHeartbeats 400000 in
set_option maxRecDepth 100000 in
theorem cr_X7_sheet_s {h : ax_H} {n : Nat} {r : Nat → Int32} {m : Nat} {R : Nat → Nat → Int32} {u : Nat} {im iu : Int32} {Wi : Nat → Nat → Int32} {t : Nat} {tp mn la : Nat → Int32} {it : Nat → Int64} (hI : CB h r m R u im iu Wi t tp mn la it) (x lane z : Int32) (hx : 0 ≤ x ∧ x ≤ 3) (hl : 0 ≤ lane ∧ lane ≤ 3) (hz : z ≤ 24) (hz2 : ¬ 0 ≤ z) : ax_C yX7_sheet cX7_sheet 4 (some .int) 1 0 0 [.ref 0, .int x, .int lane, .int z] h n (kE ((-1000014)) (fun h2 => CB h2 r m R u im iu Wi t tp mn la it ∧ FM n h h2) n) := by
  refine ax_C.go RX7 "sheet" [some (.ref 0), some (.int x), some (.int lane), some (.int z)] rfl rfl pn_X7 (lb rfl) rfl (fun l G cy bs => ?_)
  obtain ⟨a0, hS, hA, hW, hRd, hG, hM, hH⟩ := (id hI : CB h _ _ _ _ _ _ _ _ _ _ _ _)
  obtain ⟨sp, pi, pp, nw, bz, hd, dw, k1, hP, ⟨s1, s2, s3, s4, s5, s6⟩, k4⟩ := (id hS : SR h 1 _ _)
  obtain ⟨⟨fs1, o1⟩, o17, ⟨fs6, o115⟩, hu6, hm12⟩ := CB.o hI
  have hbz := s5.b
  have him := hM.b
  refine il1 dX7_sheet_0 ?_
  refine s_X7_230 dX7_sheet_1 (cn_X7_isSheet _) ⟨lb rfl, lb rfl, lb rfl, lb rfl⟩ ?_
  refine xt_if_eq 20 dX7_sheet_4 rfl (fun q => absurd q (fl1 (ax4' hx))) (fun _ => ?_)
  refine il2 dX7_sheet_7 ?_
  refine s_X7_233 dX7_sheet_8 (cn_X7_isLane _) ⟨lb rfl, lb rfl, lb rfl, lb rfl⟩ ?_
  refine xt_if_eq 20 dX7_sheet_11 rfl (fun q => absurd q (fl1 (ax4' hl))) (fun _ => ?_)
  refine il3 dX7_sheet_14 ?_
  refine xt_bipush (24) dX7_sheet_15 rfl ?_
  refine xt_icmp_le 23 dX7_sheet_17 rfl (fun _ => ?_) (fun q => absurd hz q)
  refine il3 dX7_sheet_23 ?_
  refine xt_if_ge 30 dX7_sheet_24 rfl (fun q => absurd q hz2) (fun _ => ?_)
  refine k_X7_247 dX7_sheet_27 ?_
  exact xt_iret dX7_sheet_29 rfl (lb rfl) (lb rfl) ⟨rfl, ⟨hI, FM_rf⟩, rfl⟩
set_option maxHeartbeats 400000 in
set_option maxRecDepth 100000 in
theorem cr_X7_sheet {h : ax_H} {n : Nat} {r : Nat → Int32} {m : Nat} {R : Nat → Nat → Int32} {u : Nat} {im iu : Int32} {Wi : Nat → Nat → Int32} {t : Nat} {tp mn la : Nat → Int32} {it : Nat → Int64} (hI : CB h r m R u im iu Wi t tp mn la it) (s : Nat) (hs : s < 4) (lane : Int32) (hl : 0 ≤ lane ∧ lane ≤ 3) (z : Int32) (hz : z ≤ 24) (hz2 : 0 ≤ z) : ax_C yX7_sheet cX7_sheet 4 (some .int) 1 0 0 [.ref 0, .int (nI s), .int lane, .int z] h n (kE (z) (fun h2 => CB h2 r m R u im iu Wi t tp (upd mn s z) (upd la s lane) (zIt it s 24) ∧ FM n h h2) n) := by
  refine ax_C.go RX7 "sheet" [some (.ref 0), some (.int (nI s)), some (.int lane), some (.int z)] rfl rfl pn_X7 (lb rfl) rfl (fun l G cy bs => ?_)
  obtain ⟨a0, hS, hA, hW, hRd, hG, hM, hH⟩ := (id hI : CB h _ _ _ _ _ _ _ _ _ _ _ _)
  obtain ⟨sp, pi, pp, nw, bz, hd, dw, k1, hP, ⟨s1, s2, s3, s4, s5, s6⟩, k4⟩ := (id hS : SR h 1 _ _)
  obtain ⟨⟨fs1, o1⟩, o17, ⟨fs6, o115⟩, hu6, hm12⟩ := CB.o hI
  have hbz := s5.b
  have him := hM.b
  obtain ⟨th, l0, z0, f, e0, e1, e2⟩ := hH.2 s hs
  have hth : th = 0 ∨ th = 1 := by rcases e2 with z | z; exact Or.inl z.1; exact Or.inr z.1
  refine il1 dX7_sheet_0 ?_
  refine s_X7_230 dX7_sheet_1 (cn_X7_isSheet _) ⟨lb rfl, lb rfl, lb rfl, lb rfl⟩ ?_
  refine xt_if_eq 20 dX7_sheet_4 rfl (fun q => absurd q (fl1 ⟨nI_pos' (by omega), nI_lt (b := 4) hs (by decide)⟩)) (fun _ => ?_)
  refine il2 dX7_sheet_7 ?_
  refine s_X7_233 dX7_sheet_8 (cn_X7_isLane _) ⟨lb rfl, lb rfl, lb rfl, lb rfl⟩ ?_
  refine xt_if_eq 20 dX7_sheet_11 rfl (fun q => absurd q (fl1 (ax4' hl))) (fun _ => ?_)
  refine il3 dX7_sheet_14 ?_
  refine xt_bipush (24) dX7_sheet_15 rfl ?_
  refine xt_icmp_le 23 dX7_sheet_17 rfl (fun _ => ?_) (fun q => absurd hz q)
  refine il3 dX7_sheet_23 ?_
  refine xt_if_ge 30 dX7_sheet_24 rfl (fun _ => ?_) (fun q => absurd hz2 q)
  refine al0 dX7_sheet_30 ?_
  refine g_X7_41 dX7_sheet_31 a0 ?_
  refine il1 dX7_sheet_34 ?_
  refine xt_aald4 (s) hH.1 (by omega) rfl (by decide) rfl dX7_sheet_35 ?_
  refine il2 dX7_sheet_36 ?_
  refine il3 dX7_sheet_37 ?_
  refine s_X7_248 dX7_sheet_38 (cn_X4_renew e0 e1 hth lane z) e0 ⟨lb rfl, lb rfl, lb rfl, lb rfl⟩ ?_
  refine il3 dX7_sheet_41 ?_
  exact xt_iret dX7_sheet_42 rfl (lb rfl) (lb rfl) ⟨rfl, (by
    obtain ⟨kz, hkz, rfl⟩ := z24 hz hz2
    have q := SHS_put (h2 := hp (hp h (251 + 2 * s + 1) (ax_L 24 (zL f 24))) (251 + 2 * s) (eSh (251 + 2 * s) 1 lane (nI kz))) (mn2 := upd mn s (nI kz)) (la2 := upd la s lane) (it2 := zIt it s 24) hH hs (fun j hj => by rw [hp_n _ _ (by omega), hp_n _ _ (by omega)]) ⟨1, lane, nI kz, zL f 24, hp_s _ _ _, hp_nt (by omega) (hp_s _ _ _), Or.inr ⟨rfl, kz, hkz, rfl, by rw [upd, if_pos rfl], by rw [upd, if_pos rfl], fun i hi => by rw [zL_eq f 24 i hi, zIt_in it s 24 i hi]⟩⟩ (fun k hk hne => ⟨by rw [upd, if_neg hne], by rw [upd, if_neg hne], fun i hi => zIt_out it s 24 (by omega) _ (by omega)⟩)
    exact ⟨hI.sh q.1 q.2, FM_fr (by omega) q.2⟩), rfl⟩
set_option maxHeartbeats 400000 in
set_option maxRecDepth 100000 in
theorem cr_X7_drop_b {h : ax_H} {n : Nat} {r : Nat → Int32} {m : Nat} {R : Nat → Nat → Int32} {u : Nat} {im iu : Int32} {Wi : Nat → Nat → Int32} {t : Nat} {tp mn la : Nat → Int32} {it : Nat → Int64} (hI : CB h r m R u im iu Wi t tp mn la it) (x : Int32) (hx : ¬ (0 ≤ x ∧ x ≤ 3)) : ax_C yX7_drop cX7_drop 3 (some .int) 1 0 0 [.ref 0, .int x] h n (kE ((-1000001)) (fun h2 => CB h2 r m R u im iu Wi t tp mn la it ∧ FM n h h2) n) := by
  refine ax_C.go RX7 "drop" [some (.ref 0), some (.int x), none] rfl rfl pn_X7 (lb rfl) rfl (fun l G cy bs => ?_)
  obtain ⟨a0, hS, hA, hW, hRd, hG, hM, hH⟩ := (id hI : CB h _ _ _ _ _ _ _ _ _ _ _ _)
  obtain ⟨sp, pi, pp, nw, bz, hd, dw, k1, hP, ⟨s1, s2, s3, s4, s5, s6⟩, k4⟩ := (id hS : SR h 1 _ _)
  obtain ⟨⟨fs1, o1⟩, o17, ⟨fs6, o115⟩, hu6, hm12⟩ := CB.o hI
  have hbz := s5.b
  have him := hM.b
  refine il1 dX7_drop_0 ?_
  refine s_X7_230 dX7_drop_1 (cn_X7_isSheet _) ⟨lb rfl, lb rfl, lb rfl, lb rfl⟩ ?_
  refine xt_if_ne 10 dX7_drop_4 rfl (fun q => absurd (fl0 (ax4 hx)) q) (fun _ => ?_)
  refine k_X7_64 dX7_drop_7 ?_
  exact xt_iret dX7_drop_9 rfl (lb rfl) (lb rfl) ⟨rfl, ⟨hI, FM_rf⟩, rfl⟩
set_option maxHeartbeats 400000 in
set_option maxRecDepth 100000 in
theorem cr_X7_drop {h : ax_H} {n : Nat} {r : Nat → Int32} {m : Nat} {R : Nat → Nat → Int32} {u : Nat} {im iu : Int32} {Wi : Nat → Nat → Int32} {t : Nat} {tp mn la : Nat → Int32} {it : Nat → Int64} (hI : CB h r m R u im iu Wi t tp mn la it) (s : Nat) (hs : s < 4) : ax_C yX7_drop cX7_drop 3 (some .int) 1 0 0 [.ref 0, .int (nI s)] h n (kE (if 0 ≤ mn s then mn s else -1000011) (fun h2 => CB h2 r m R u im iu Wi t tp (upd mn s (-1)) la it ∧ FM n h h2) n) := by
  refine ax_C.go RX7 "drop" [some (.ref 0), some (.int (nI s)), none] rfl rfl pn_X7 (lb rfl) rfl (fun l G cy bs => ?_)
  obtain ⟨a0, hS, hA, hW, hRd, hG, hM, hH⟩ := (id hI : CB h _ _ _ _ _ _ _ _ _ _ _ _)
  obtain ⟨sp, pi, pp, nw, bz, hd, dw, k1, hP, ⟨s1, s2, s3, s4, s5, s6⟩, k4⟩ := (id hS : SR h 1 _ _)
  obtain ⟨⟨fs1, o1⟩, o17, ⟨fs6, o115⟩, hu6, hm12⟩ := CB.o hI
  have hbz := s5.b
  have him := hM.b
  obtain ⟨th, l0, z0, f, e0, e1, e2⟩ := hH.2 s hs
  have hth : th = 0 ∨ th = 1 := by rcases e2 with z | z; exact Or.inl z.1; exact Or.inr z.1
  refine il1 dX7_drop_0 ?_
  refine s_X7_230 dX7_drop_1 (cn_X7_isSheet _) ⟨lb rfl, lb rfl, lb rfl, lb rfl⟩ ?_
  refine xt_if_ne 10 dX7_drop_4 rfl (fun _ => ?_) (fun q => absurd q (fl1 ⟨nI_pos' (by omega), nI_lt (b := 4) hs (by decide)⟩))
  refine al0 dX7_drop_10 ?_
  refine g_X7_41 dX7_drop_11 a0 ?_
  refine il1 dX7_drop_14 ?_
  refine xt_aald4 (s) hH.1 (by omega) rfl (by decide) rfl dX7_drop_15 ?_
  refine as2 dX7_drop_16 (by decide) rfl ?_
  refine al2 dX7_drop_17 ?_
  refine g_X7_252 dX7_drop_18 e0 ?_
  refine xt_if_ne 27 dX7_drop_21 rfl (fun c21 => ?_) (fun c21 => ?_)
  · refine al2 dX7_drop_27 ?_
    refine xt_iconst (0) dX7_drop_28 rfl ?_
    refine p_X7_252 dX7_drop_29 (Or.inl rfl) e0 ?_
    refine al2 dX7_drop_32 ?_
    refine g_X7_256 dX7_drop_33 (hp_s _ _ _) ?_
    exact xt_iret dX7_drop_36 rfl (lb rfl) (lb rfl) ⟨(by
      rcases e2 with z | ⟨z1, k, z2, z3, z4, -⟩
      · exact absurd z.1 c21
      · rw [z4, if_pos (nI_pos' (by omega)), z3]), (by
      have q := SHS_put (h2 := hp h (251 + 2 * s) (eSh (251 + 2 * s) 0 l0 z0)) (mn2 := upd mn s (-1)) (la2 := la) (it2 := it) hH hs (fun j hj => by rw [hp_n _ _ (by omega)]) ⟨0, l0, z0, f, hp_s _ _ _, hp_nt (by omega) e1, Or.inl ⟨rfl, by rw [upd, if_pos rfl]⟩⟩ (fun k hk hne => ⟨by rw [upd, if_neg hne], rfl, fun i hi => rfl⟩)
      exact ⟨hI.sh q.1 q.2, FM_fr (by omega) q.2⟩), rfl⟩
  · refine k_X7_255 dX7_drop_24 ?_
    exact xt_iret dX7_drop_26 rfl (lb rfl) (lb rfl) ⟨(by
      have q : mn s = -1 := by rcases e2 with z | z; exact z.2; exact absurd c21 (by rw [z.1]; decide)
      rw [if_neg (by rw [q]; decide)]), (by
      have q : mn s = -1 := by rcases e2 with z | z; exact z.2; exact absurd c21 (by rw [z.1]; decide)
      have q2 : upd mn s (-1) = mn := by funext k; rw [upd]; by_cases e : k = s; rw [if_pos e, e, q]; rw [if_neg e]
      rw [q2]; exact ⟨hI, FM_rf⟩), rfl⟩
set_option maxHeartbeats 400000 in
set_option maxRecDepth 100000 in
theorem cr_X7_item_b1 {h : ax_H} {n : Nat} {r : Nat → Int32} {m : Nat} {R : Nat → Nat → Int32} {u : Nat} {im iu : Int32} {Wi : Nat → Nat → Int32} {t : Nat} {tp mn la : Nat → Int32} {it : Nat → Int64} (hI : CB h r m R u im iu Wi t tp mn la it) (x lane i : Int32) (v : Int64) (hx : ¬ (0 ≤ x ∧ x ≤ 3)) : ax_C yX7_item cX7_item 7 (some .int) 2 0 0 [.ref 0, .int x, .int lane, .int i, .long v] h n (kE ((-1000001)) (fun h2 => CB h2 r m R u im iu Wi t tp mn la it ∧ FM n h h2) n) := by
  refine ax_C.go RX7 "item" [some (.ref 0), some (.int x), some (.int lane), some (.int i), some (.long v), none, none] rfl rfl pn_X7 (lb rfl) rfl (fun l G cy bs => ?_)
  obtain ⟨a0, hS, hA, hW, hRd, hG, hM, hH⟩ := (id hI : CB h _ _ _ _ _ _ _ _ _ _ _ _)
  obtain ⟨sp, pi, pp, nw, bz, hd, dw, k1, hP, ⟨s1, s2, s3, s4, s5, s6⟩, k4⟩ := (id hS : SR h 1 _ _)
  obtain ⟨⟨fs1, o1⟩, o17, ⟨fs6, o115⟩, hu6, hm12⟩ := CB.o hI
  have hbz := s5.b
  have him := hM.b
  refine il1 dX7_item_0 ?_
  refine s_X7_230 dX7_item_1 (cn_X7_isSheet _) ⟨lb rfl, lb rfl, lb rfl, lb rfl⟩ ?_
  refine xt_if_eq 14 dX7_item_4 rfl (fun _ => ?_) (fun q => absurd (fl0 (ax4 hx)) q)
  refine k_X7_64 dX7_item_14 ?_
  exact xt_iret dX7_item_16 rfl (lb rfl) (lb rfl) ⟨rfl, ⟨hI, FM_rf⟩, rfl⟩
set_option maxHeartbeats 400000 in
set_option maxRecDepth 100000 in
theorem cr_X7_item_b2 {h : ax_H} {n : Nat} {r : Nat → Int32} {m : Nat} {R : Nat → Nat → Int32} {u : Nat} {im iu : Int32} {Wi : Nat → Nat → Int32} {t : Nat} {tp mn la : Nat → Int32} {it : Nat → Int64} (hI : CB h r m R u im iu Wi t tp mn la it) (x lane i : Int32) (v : Int64) (hx : 0 ≤ x ∧ x ≤ 3) (hl : ¬ (0 ≤ lane ∧ lane ≤ 3)) : ax_C yX7_item cX7_item 7 (some .int) 2 0 0 [.ref 0, .int x, .int lane, .int i, .long v] h n (kE ((-1000001)) (fun h2 => CB h2 r m R u im iu Wi t tp mn la it ∧ FM n h h2) n) := by
  refine ax_C.go RX7 "item" [some (.ref 0), some (.int x), some (.int lane), some (.int i), some (.long v), none, none] rfl rfl pn_X7 (lb rfl) rfl (fun l G cy bs => ?_)
  obtain ⟨a0, hS, hA, hW, hRd, hG, hM, hH⟩ := (id hI : CB h _ _ _ _ _ _ _ _ _ _ _ _)
  obtain ⟨sp, pi, pp, nw, bz, hd, dw, k1, hP, ⟨s1, s2, s3, s4, s5, s6⟩, k4⟩ := (id hS : SR h 1 _ _)
  obtain ⟨⟨fs1, o1⟩, o17, ⟨fs6, o115⟩, hu6, hm12⟩ := CB.o hI
  have hbz := s5.b
  have him := hM.b
  refine il1 dX7_item_0 ?_
  refine s_X7_230 dX7_item_1 (cn_X7_isSheet _) ⟨lb rfl, lb rfl, lb rfl, lb rfl⟩ ?_
  refine xt_if_eq 14 dX7_item_4 rfl (fun q => absurd q (fl1 (ax4' hx))) (fun _ => ?_)
  refine il2 dX7_item_7 ?_
  refine s_X7_233 dX7_item_8 (cn_X7_isLane _) ⟨lb rfl, lb rfl, lb rfl, lb rfl⟩ ?_
  refine xt_if_ne 17 dX7_item_11 rfl (fun q => absurd (fl0 (ax4 hl)) q) (fun _ => ?_)
  refine k_X7_64 dX7_item_14 ?_
  exact xt_iret dX7_item_16 rfl (lb rfl) (lb rfl) ⟨rfl, ⟨hI, FM_rf⟩, rfl⟩
set_option maxHeartbeats 400000 in
set_option maxRecDepth 100000 in
theorem cr_X7_item_r {h : ax_H} {n : Nat} {r : Nat → Int32} {m : Nat} {R : Nat → Nat → Int32} {u : Nat} {im iu : Int32} {Wi : Nat → Nat → Int32} {t : Nat} {tp mn la : Nat → Int32} {it : Nat → Int64} (hI : CB h r m R u im iu Wi t tp mn la it) (s : Nat) (hs : s < 4) (lane : Int32) (hl : 0 ≤ lane ∧ lane ≤ 3) (i : Int32) (v : Int64) (ha : ¬ agV mn la s lane i 1 = 0) : ax_C yX7_item cX7_item 7 (some .int) 2 0 0 [.ref 0, .int (nI s), .int lane, .int i, .long v] h n (kE (agV mn la s lane i 1) (fun h2 => CB h2 r m R u im iu Wi t tp mn la it ∧ FM n h h2) n) := by
  refine ax_C.go RX7 "item" [some (.ref 0), some (.int (nI s)), some (.int lane), some (.int i), some (.long v), none, none] rfl rfl pn_X7 (lb rfl) rfl (fun l G cy bs => ?_)
  obtain ⟨a0, hS, hA, hW, hRd, hG, hM, hH⟩ := (id hI : CB h _ _ _ _ _ _ _ _ _ _ _ _)
  obtain ⟨sp, pi, pp, nw, bz, hd, dw, k1, hP, ⟨s1, s2, s3, s4, s5, s6⟩, k4⟩ := (id hS : SR h 1 _ _)
  obtain ⟨⟨fs1, o1⟩, o17, ⟨fs6, o115⟩, hu6, hm12⟩ := CB.o hI
  have hbz := s5.b
  have him := hM.b
  obtain ⟨th, l0, z0, f, e0, e1, e2⟩ := hH.2 s hs
  have hth : th = 0 ∨ th = 1 := by rcases e2 with z | z; exact Or.inl z.1; exact Or.inr z.1
  have hrf := rf_ag (h := h) e2 lane i 1
  refine il1 dX7_item_0 ?_
  refine s_X7_230 dX7_item_1 (cn_X7_isSheet _) ⟨lb rfl, lb rfl, lb rfl, lb rfl⟩ ?_
  refine xt_if_eq 14 dX7_item_4 rfl (fun q => absurd q (fl1 ⟨nI_pos' (by omega), nI_lt (b := 4) hs (by decide)⟩)) (fun _ => ?_)
  refine il2 dX7_item_7 ?_
  refine s_X7_233 dX7_item_8 (cn_X7_isLane _) ⟨lb rfl, lb rfl, lb rfl, lb rfl⟩ ?_
  refine xt_if_ne 17 dX7_item_11 rfl (fun _ => ?_) (fun q => absurd q (fl1 (ax4' hl)))
  refine al0 dX7_item_17 ?_
  refine g_X7_41 dX7_item_18 a0 ?_
  refine il1 dX7_item_21 ?_
  refine xt_aald4 (s) hH.1 (by omega) rfl (by decide) rfl dX7_item_22 ?_
  refine il2 dX7_item_23 ?_
  refine il3 dX7_item_24 ?_
  refine xt_iconst (1) dX7_item_25 rfl ?_
  refine s_X7_236 dX7_item_26 (cn_X4_refusal e0 lane i 1) e0 ⟨lb rfl, lb rfl, lb rfl, lb rfl⟩ ?_
  refine is6 dX7_item_29 (by decide) rfl ?_
  refine il6 dX7_item_31 ?_
  refine xt_if_eq 39 dX7_item_33 rfl (fun q => absurd q (by rw [hrf]; exact ha)) (fun _ => ?_)
  refine il6 dX7_item_36 ?_
  exact xt_iret dX7_item_38 rfl (lb rfl) (lb rfl) ⟨by rw [hrf], ⟨hI, FM_rf⟩, rfl⟩
set_option maxHeartbeats 400000 in
set_option maxRecDepth 100000 in
theorem cr_X7_item {h : ax_H} {n : Nat} {r : Nat → Int32} {m : Nat} {R : Nat → Nat → Int32} {u : Nat} {im iu : Int32} {Wi : Nat → Nat → Int32} {t : Nat} {tp mn la : Nat → Int32} {it : Nat → Int64} (hI : CB h r m R u im iu Wi t tp mn la it) (s : Nat) (hs : s < 4) (lane : Int32) (hl : 0 ≤ lane ∧ lane ≤ 3) (i : Nat) (hi : i < 24) (v : Int64) (ha : agV mn la s lane (nI i) 1 = 0) : ax_C yX7_item cX7_item 7 (some .int) 2 0 0 [.ref 0, .int (nI s), .int lane, .int (nI i), .long v] h n (kE (1) (fun h2 => CB h2 r m R u im iu Wi t tp mn la (vp_updL it (24 * s + i) (lowV lane v)) ∧ FM n h h2) n) := by
  refine ax_C.go RX7 "item" [some (.ref 0), some (.int (nI s)), some (.int lane), some (.int (nI i)), some (.long v), none, none] rfl rfl pn_X7 (lb rfl) rfl (fun l G cy bs => ?_)
  obtain ⟨a0, hS, hA, hW, hRd, hG, hM, hH⟩ := (id hI : CB h _ _ _ _ _ _ _ _ _ _ _ _)
  obtain ⟨sp, pi, pp, nw, bz, hd, dw, k1, hP, ⟨s1, s2, s3, s4, s5, s6⟩, k4⟩ := (id hS : SR h 1 _ _)
  obtain ⟨⟨fs1, o1⟩, o17, ⟨fs6, o115⟩, hu6, hm12⟩ := CB.o hI
  have hbz := s5.b
  have him := hM.b
  obtain ⟨th, l0, z0, f, e0, e1, e2⟩ := hH.2 s hs
  have hth : th = 0 ∨ th = 1 := by rcases e2 with z | z; exact Or.inl z.1; exact Or.inr z.1
  have hrf := rf_ag (h := h) e2 lane (nI i) 1
  obtain ⟨rfl, k, hk, rfl, t4, t5, t6⟩ := sh_there (h := h) e2 ha
  obtain ⟨tl0, a, ta, tb⟩ := ag_nat (y := 1) hk (by omega) t4 ha
  obtain rfl : i = a := (nI_eq (by omega) (by omega)).mp ta
  obtain rfl : l0 = lane := t5.symm.trans tl0
  refine il1 dX7_item_0 ?_
  refine s_X7_230 dX7_item_1 (cn_X7_isSheet _) ⟨lb rfl, lb rfl, lb rfl, lb rfl⟩ ?_
  refine xt_if_eq 14 dX7_item_4 rfl (fun q => absurd q (fl1 ⟨nI_pos' (by omega), nI_lt (b := 4) hs (by decide)⟩)) (fun _ => ?_)
  refine il2 dX7_item_7 ?_
  refine s_X7_233 dX7_item_8 (cn_X7_isLane _) ⟨lb rfl, lb rfl, lb rfl, lb rfl⟩ ?_
  refine xt_if_ne 17 dX7_item_11 rfl (fun _ => ?_) (fun q => absurd q (fl1 (ax4' hl)))
  refine al0 dX7_item_17 ?_
  refine g_X7_41 dX7_item_18 a0 ?_
  refine il1 dX7_item_21 ?_
  refine xt_aald4 (s) hH.1 (by omega) rfl (by decide) rfl dX7_item_22 ?_
  refine il2 dX7_item_23 ?_
  refine il3 dX7_item_24 ?_
  refine xt_iconst (1) dX7_item_25 rfl ?_
  refine s_X7_236 dX7_item_26 (cn_X4_refusal e0 l0 (nI i) 1) e0 ⟨lb rfl, lb rfl, lb rfl, lb rfl⟩ ?_
  refine is6 dX7_item_29 (by decide) rfl ?_
  refine il6 dX7_item_31 ?_
  refine xt_if_eq 39 dX7_item_33 rfl (fun _ => ?_) (fun q => absurd (by rw [hrf]; exact ha) q)
  refine al0 dX7_item_39 ?_
  refine g_X7_41 dX7_item_40 a0 ?_
  refine il1 dX7_item_43 ?_
  refine xt_aald4 (s) hH.1 (by omega) rfl (by decide) rfl dX7_item_44 ?_
  refine il3 dX7_item_45 ?_
  refine ll4 dX7_item_46 ?_
  refine s_X7_243 dX7_item_48 (cn_X4_put e0 e1 i (by omega) hk v) e0 ⟨lb rfl, lb rfl, lb rfl, lb rfl⟩ ?_
  refine xt_iconst (1) dX7_item_51 rfl ?_
  exact xt_iret dX7_item_52 rfl (lb rfl) (lb rfl) ⟨rfl, (by
    have q := SHS_put (h2 := hp h (251 + 2 * s + 1) (ax_L 24 (vp_updL f i (lowV l0 v)))) (mn2 := mn) (la2 := la) (it2 := vp_updL it (24 * s + i) (lowV l0 v)) hH hs (fun j hj => by rw [hp_n _ _ (by omega)]) ⟨1, l0, nI k, _, hp_nt (by omega) e0, hp_s _ _ _, Or.inr ⟨rfl, k, hk, rfl, t4, t5, fun j hj => by
      rw [vpL, vpL]
      by_cases e : j = i
      · rw [if_pos e, if_pos (by omega)]
      · rw [if_neg e, if_neg (by omega)]; exact t6 j hj⟩⟩ (fun k2 hk2 hne => ⟨rfl, rfl, fun j hj => by rw [vpL, if_neg (by omega)]⟩)
    exact ⟨hI.sh q.1 q.2, FM_fr (by omega) q.2⟩), rfl⟩
