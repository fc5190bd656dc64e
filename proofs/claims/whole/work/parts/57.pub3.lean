set_option maxHeartbeats 400000 in
set_option maxRecDepth 100000 in
theorem cr_X7_copy_b1 {h : ax_H} {n : Nat} {r : Nat → Int32} {m : Nat} {R : Nat → Nat → Int32} {u : Nat} {im iu : Int32} {Wi : Nat → Nat → Int32} {t : Nat} {tp mn la : Nat → Int32} {it : Nat → Int64} (hI : CB h r m R u im iu Wi t tp mn la it) (x i y j z : Int32) (hx : ¬ (0 ≤ x ∧ x ≤ 3)) : ax_C yX7_copy cX7_copy 8 (some .int) 1 0 0 [.ref 0, .int x, .int i, .int y, .int j, .int z] h n (kE ((-1000001)) (fun h2 => CB h2 r m R u im iu Wi t tp mn la it ∧ FM n h h2) n) := by
  refine ax_C.go RX7 "copy" [some (.ref 0), some (.int x), some (.int i), some (.int y), some (.int j), some (.int z), none, none] rfl rfl pn_X7 (lb rfl) rfl (fun l G cy bs => ?_)
  obtain ⟨a0, hS, hA, hW, hRd, hG, hM, hH⟩ := (id hI : CB h _ _ _ _ _ _ _ _ _ _ _ _)
  obtain ⟨sp, pi, pp, nw, bz, hd, dw, k1, hP, ⟨s1, s2, s3, s4, s5, s6⟩, k4⟩ := (id hS : SR h 1 _ _)
  obtain ⟨⟨fs1, o1⟩, o17, ⟨fs6, o115⟩, hu6, hm12⟩ := CB.o hI
  have hbz := s5.b
  have him := hM.b
  refine il1 dX7_copy_0 ?_
  refine s_X7_230 dX7_copy_1 (cn_X7_isSheet _) ⟨lb rfl, lb rfl, lb rfl, lb rfl⟩ ?_
  refine xt_if_eq 14 dX7_copy_4 rfl (fun _ => ?_) (fun q => absurd (fl0 (ax4 hx)) q)
  refine k_X7_64 dX7_copy_14 ?_
  exact xt_iret dX7_copy_16 rfl (lb rfl) (lb rfl) ⟨rfl, ⟨hI, FM_rf⟩, rfl⟩
set_option maxHeartbeats 400000 in
set_option maxRecDepth 100000 in
theorem cr_X7_copy_b2 {h : ax_H} {n : Nat} {r : Nat → Int32} {m : Nat} {R : Nat → Nat → Int32} {u : Nat} {im iu : Int32} {Wi : Nat → Nat → Int32} {t : Nat} {tp mn la : Nat → Int32} {it : Nat → Int64} (hI : CB h r m R u im iu Wi t tp mn la it) (x i y j z : Int32) (hx : 0 ≤ x ∧ x ≤ 3) (hl : ¬ (0 ≤ y ∧ y ≤ 3)) : ax_C yX7_copy cX7_copy 8 (some .int) 1 0 0 [.ref 0, .int x, .int i, .int y, .int j, .int z] h n (kE ((-1000001)) (fun h2 => CB h2 r m R u im iu Wi t tp mn la it ∧ FM n h h2) n) := by
  refine ax_C.go RX7 "copy" [some (.ref 0), some (.int x), some (.int i), some (.int y), some (.int j), some (.int z), none, none] rfl rfl pn_X7 (lb rfl) rfl (fun l G cy bs => ?_)
  obtain ⟨a0, hS, hA, hW, hRd, hG, hM, hH⟩ := (id hI : CB h _ _ _ _ _ _ _ _ _ _ _ _)
  obtain ⟨sp, pi, pp, nw, bz, hd, dw, k1, hP, ⟨s1, s2, s3, s4, s5, s6⟩, k4⟩ := (id hS : SR h 1 _ _)
  obtain ⟨⟨fs1, o1⟩, o17, ⟨fs6, o115⟩, hu6, hm12⟩ := CB.o hI
  have hbz := s5.b
  have him := hM.b
  refine il1 dX7_copy_0 ?_
  refine s_X7_230 dX7_copy_1 (cn_X7_isSheet _) ⟨lb rfl, lb rfl, lb rfl, lb rfl⟩ ?_
  refine xt_if_eq 14 dX7_copy_4 rfl (fun q => absurd q (fl1 (ax4' hx))) (fun _ => ?_)
  refine il3 dX7_copy_7 ?_
  refine s_X7_230 dX7_copy_8 (cn_X7_isSheet _) ⟨lb rfl, lb rfl, lb rfl, lb rfl⟩ ?_
  refine xt_if_ne 17 dX7_copy_11 rfl (fun q => absurd (fl0 (ax4 hl)) q) (fun _ => ?_)
  refine k_X7_64 dX7_copy_14 ?_
  exact xt_iret dX7_copy_16 rfl (lb rfl) (lb rfl) ⟨rfl, ⟨hI, FM_rf⟩, rfl⟩
theorem sh_no {s : Nat} {mn : Nat → Int32} {th : Int32} {P : Prop} (e2 : (th = 0 ∧ mn s = -1) ∨ (th = 1 ∧ P)) (h : ¬ 0 ≤ mn s) (hp : P → 0 ≤ mn s) : th = 0 := by
  rcases e2 with z | z
  · exact z.1
  · exact absurd (hp z.2) h
theorem sh_yes {s : Nat} {mn : Nat → Int32} {th : Int32} {P : Prop} (e2 : (th = 0 ∧ mn s = -1) ∨ (th = 1 ∧ P)) (h : 0 ≤ mn s) : (¬ th = 0) ∧ th = 1 ∧ P := by
  rcases e2 with z | z
  · exact absurd h (by rw [z.2]; decide)
  · exact ⟨by rw [z.1]; decide, z⟩
theorem nlt {x : Int32} : (¬ x < 0) ↔ 0 ≤ x := by rw [fb_lt, fb_le, ti_0]; omega
/-- whether so many are held, by the reference -/
theorem ho_ag {h : ax_H} {s : Nat} {mn la : Nat → Int32} {it : Nat → Int64} {l z : Int32} {f : Nat → Int64} (e : ∃ k : Nat, k ≤ 24 ∧ z = nI k ∧ mn s = nI k ∧ la s = l ∧ ∀ i, i < 24 → f i = it (24 * s + i)) (i y : Int32) : agV mn la s (la s) i y = if hoV z i y = 0 then -1000013 else 0 := by
  rw [← rf_ag (h := h) (th := 1) (f := f) (it := it) (Or.inr ⟨rfl, e⟩)]
  unfold rfV
  obtain ⟨k, -, -, -, hl, -⟩ := e
  rw [if_neg (by decide), if_pos hl.symm]
def cyI (it : Nat → Int64) (a b z : Nat) : Nat → Int64 := fun p => if b ≤ p ∧ p < b + z then it (a + (p - b)) else it p
theorem tkR_eq (it tk : Nat → Int64) (f : Nat) : ∀ k j, j < k → tkR it tk f k j = it (f + j)
  | 0, j, h => absurd h (by omega)
  | k + 1, j, h => by
    rw [tkR_s, vpL]
    by_cases e : j = k
    · rw [if_pos e, e]
    · rw [if_neg e]; exact tkR_eq it tk f k j (by omega)
theorem ptR_eq (it tk : Nat → Int64) (b : Nat) : ∀ k p, ptR it tk b k p = if b ≤ p ∧ p < b + k then tk (p - b) else it p
  | 0, p => by rw [if_neg (by omega)]; rfl
  | k + 1, p => by
    rw [ptR_s, vpL]
    by_cases e : p = b + k
    · rw [if_pos e, if_pos (by omega)]; congr 1; omega
    · rw [if_neg e, ptR_eq it tk b k p]
      by_cases q : b ≤ p ∧ p < b + k
      · rw [if_pos q, if_pos (by omega)]
      · rw [if_neg q, if_neg (by omega)]
theorem cyI_eq (it tk : Nat → Int64) (a b z : Nat) : ptR it (tkR it tk a z) b z = cyI it a b z := by
  funext p
  rw [ptR_eq, cyI]
  by_cases q : b ≤ p ∧ p < b + z
  · rw [if_pos q, if_pos q, tkR_eq it tk a z _ (by omega)]
  · rw [if_neg q, if_neg q]
set_option maxHeartbeats 400000 in
set_option maxRecDepth 100000 in
theorem cr_X7_copy_n1 {h : ax_H} {n : Nat} {r : Nat → Int32} {m : Nat} {R : Nat → Nat → Int32} {u : Nat} {im iu : Int32} {Wi : Nat → Nat → Int32} {t : Nat} {tp mn la : Nat → Int32} {it : Nat → Int64} (hI : CB h r m R u im iu Wi t tp mn la it) (s q : Nat) (hs : s < 4) (hq : q < 4) (i j z : Int32) (hn : mn s < 0) : ax_C yX7_copy cX7_copy 8 (some .int) 1 0 0 [.ref 0, .int (nI s), .int i, .int (nI q), .int j, .int z] h n (kE ((-1000011)) (fun h2 => CB h2 r m R u im iu Wi t tp mn la it ∧ FM n h h2) n) := by
  refine ax_C.go RX7 "copy" [some (.ref 0), some (.int (nI s)), some (.int i), some (.int (nI q)), some (.int j), some (.int z), none, none] rfl rfl pn_X7 (lb rfl) rfl (fun l G cy bs => ?_)
  obtain ⟨a0, hS, hA, hW, hRd, hG, hM, hH⟩ := (id hI : CB h _ _ _ _ _ _ _ _ _ _ _ _)
  obtain ⟨sp, pi, pp, nw, bz, hd, dw, k1, hP, ⟨s1, s2, s3, s4, s5, s6⟩, k4⟩ := (id hS : SR h 1 _ _)
  obtain ⟨⟨fs1, o1⟩, o17, ⟨fs6, o115⟩, hu6, hm12⟩ := CB.o hI
  have hbz := s5.b
  have him := hM.b
  obtain ⟨th, l0, z0, f, e0, e1, e2⟩ := hH.2 s hs
  obtain ⟨th2, l2, z2, g, e02, e12, e22⟩ := hH.2 q hq
  have hth : th = 0 ∨ th = 1 := by rcases e2 with z | z; exact Or.inl z.1; exact Or.inr z.1
  have hth2 : th2 = 0 ∨ th2 = 1 := by rcases e22 with z | z; exact Or.inl z.1; exact Or.inr z.1
  refine il1 dX7_copy_0 ?_
  refine s_X7_230 dX7_copy_1 (cn_X7_isSheet _) ⟨lb rfl, lb rfl, lb rfl, lb rfl⟩ ?_
  refine xt_if_eq 14 dX7_copy_4 rfl (fun q => absurd q (fl1 ⟨nI_pos' (by omega), nI_lt (b := 4) hs (by decide)⟩)) (fun _ => ?_)
  refine il3 dX7_copy_7 ?_
  refine s_X7_230 dX7_copy_8 (cn_X7_isSheet _) ⟨lb rfl, lb rfl, lb rfl, lb rfl⟩ ?_
  refine xt_if_ne 17 dX7_copy_11 rfl (fun _ => ?_) (fun q => absurd q (fl1 ⟨nI_pos' (by omega), nI_lt (b := 4) hq (by decide)⟩))
  refine al0 dX7_copy_17 ?_
  refine g_X7_41 dX7_copy_18 a0 ?_
  refine il1 dX7_copy_21 ?_
  refine xt_aald4 (s) hH.1 (by omega) rfl (by decide) rfl dX7_copy_22 ?_
  refine as6 dX7_copy_23 (by decide) rfl ?_
  refine al0 dX7_copy_25 ?_
  refine g_X7_41 dX7_copy_26 a0 ?_
  refine il3 dX7_copy_29 ?_
  refine xt_aald4 (q) hH.1 (by omega) rfl (by decide) rfl dX7_copy_30 ?_
  refine as7 dX7_copy_31 (by decide) rfl ?_
  refine al6 dX7_copy_33 ?_
  refine g_X7_252 dX7_copy_35 e0 ?_
  refine xt_if_eq 49 dX7_copy_38 rfl (fun _ => ?_) (fun q => absurd (sh_no e2 (fun y => nlt.mpr y hn) (fun ⟨k, hk, _, hm, _⟩ => by rw [hm]; exact nI_pos' (by omega))) q)
  refine k_X7_255 dX7_copy_49 ?_
  exact xt_iret dX7_copy_51 rfl (lb rfl) (lb rfl) ⟨rfl, ⟨hI, FM_rf⟩, rfl⟩
set_option maxHeartbeats 400000 in
set_option maxRecDepth 100000 in
theorem cr_X7_copy_n2 {h : ax_H} {n : Nat} {r : Nat → Int32} {m : Nat} {R : Nat → Nat → Int32} {u : Nat} {im iu : Int32} {Wi : Nat → Nat → Int32} {t : Nat} {tp mn la : Nat → Int32} {it : Nat → Int64} (hI : CB h r m R u im iu Wi t tp mn la it) (s q : Nat) (hs : s < 4) (hq : q < 4) (i j z : Int32) (hn : ¬ mn s < 0) (hn2 : ¬ 0 ≤ mn q) : ax_C yX7_copy cX7_copy 8 (some .int) 1 0 0 [.ref 0, .int (nI s), .int i, .int (nI q), .int j, .int z] h n (kE ((-1000011)) (fun h2 => CB h2 r m R u im iu Wi t tp mn la it ∧ FM n h h2) n) := by
  refine ax_C.go RX7 "copy" [some (.ref 0), some (.int (nI s)), some (.int i), some (.int (nI q)), some (.int j), some (.int z), none, none] rfl rfl pn_X7 (lb rfl) rfl (fun l G cy bs => ?_)
  obtain ⟨a0, hS, hA, hW, hRd, hG, hM, hH⟩ := (id hI : CB h _ _ _ _ _ _ _ _ _ _ _ _)
  obtain ⟨sp, pi, pp, nw, bz, hd, dw, k1, hP, ⟨s1, s2, s3, s4, s5, s6⟩, k4⟩ := (id hS : SR h 1 _ _)
  obtain ⟨⟨fs1, o1⟩, o17, ⟨fs6, o115⟩, hu6, hm12⟩ := CB.o hI
  have hbz := s5.b
  have him := hM.b
  obtain ⟨th, l0, z0, f, e0, e1, e2⟩ := hH.2 s hs
  obtain ⟨th2, l2, z2, g, e02, e12, e22⟩ := hH.2 q hq
  have hth : th = 0 ∨ th = 1 := by rcases e2 with z | z; exact Or.inl z.1; exact Or.inr z.1
  have hth2 : th2 = 0 ∨ th2 = 1 := by rcases e22 with z | z; exact Or.inl z.1; exact Or.inr z.1
  refine il1 dX7_copy_0 ?_
  refine s_X7_230 dX7_copy_1 (cn_X7_isSheet _) ⟨lb rfl, lb rfl, lb rfl, lb rfl⟩ ?_
  refine xt_if_eq 14 dX7_copy_4 rfl (fun q => absurd q (fl1 ⟨nI_pos' (by omega), nI_lt (b := 4) hs (by decide)⟩)) (fun _ => ?_)
  refine il3 dX7_copy_7 ?_
  refine s_X7_230 dX7_copy_8 (cn_X7_isSheet _) ⟨lb rfl, lb rfl, lb rfl, lb rfl⟩ ?_
  refine xt_if_ne 17 dX7_copy_11 rfl (fun _ => ?_) (fun q => absurd q (fl1 ⟨nI_pos' (by omega), nI_lt (b := 4) hq (by decide)⟩))
  refine al0 dX7_copy_17 ?_
  refine g_X7_41 dX7_copy_18 a0 ?_
  refine il1 dX7_copy_21 ?_
  refine xt_aald4 (s) hH.1 (by omega) rfl (by decide) rfl dX7_copy_22 ?_
  refine as6 dX7_copy_23 (by decide) rfl ?_
  refine al0 dX7_copy_25 ?_
  refine g_X7_41 dX7_copy_26 a0 ?_
  refine il3 dX7_copy_29 ?_
  refine xt_aald4 (q) hH.1 (by omega) rfl (by decide) rfl dX7_copy_30 ?_
  refine as7 dX7_copy_31 (by decide) rfl ?_
  refine al6 dX7_copy_33 ?_
  refine g_X7_252 dX7_copy_35 e0 ?_
  refine xt_if_eq 49 dX7_copy_38 rfl (fun q => absurd q (sh_yes e2 (nlt.mp hn)).1) (fun _ => ?_)
  refine al7 dX7_copy_41 ?_
  refine g_X7_252 dX7_copy_43 e02 ?_
  refine xt_if_ne 52 dX7_copy_46 rfl (fun q => absurd (sh_no e22 hn2 (fun ⟨k, hk, _, hm, _⟩ => by rw [hm]; exact nI_pos' (by omega))) q) (fun _ => ?_)
  refine k_X7_255 dX7_copy_49 ?_
  exact xt_iret dX7_copy_51 rfl (lb rfl) (lb rfl) ⟨rfl, ⟨hI, FM_rf⟩, rfl⟩
set_option maxHeartbeats 400000 in
set_option maxRecDepth 100000 in
theorem cr_X7_copy_c {h : ax_H} {n : Nat} {r : Nat → Int32} {m : Nat} {R : Nat → Nat → Int32} {u : Nat} {im iu : Int32} {Wi : Nat → Nat → Int32} {t : Nat} {tp mn la : Nat → Int32} {it : Nat → Int64} (hI : CB h r m R u im iu Wi t tp mn la it) (s q : Nat) (hs : s < 4) (hq : q < 4) (i j z : Int32) (hn : ¬ mn s < 0) (hn2 : 0 ≤ mn q) (hc : ¬ la s = la q) : ax_C yX7_copy cX7_copy 8 (some .int) 1 0 0 [.ref 0, .int (nI s), .int i, .int (nI q), .int j, .int z] h n (kE ((-1000012)) (fun h2 => CB h2 r m R u im iu Wi t tp mn la it ∧ FM n h h2) n) := by
  refine ax_C.go RX7 "copy" [some (.ref 0), some (.int (nI s)), some (.int i), some (.int (nI q)), some (.int j), some (.int z), none, none] rfl rfl pn_X7 (lb rfl) rfl (fun l G cy bs => ?_)
  obtain ⟨a0, hS, hA, hW, hRd, hG, hM, hH⟩ := (id hI : CB h _ _ _ _ _ _ _ _ _ _ _ _)
  obtain ⟨sp, pi, pp, nw, bz, hd, dw, k1, hP, ⟨s1, s2, s3, s4, s5, s6⟩, k4⟩ := (id hS : SR h 1 _ _)
  obtain ⟨⟨fs1, o1⟩, o17, ⟨fs6, o115⟩, hu6, hm12⟩ := CB.o hI
  have hbz := s5.b
  have him := hM.b
  obtain ⟨th, l0, z0, f, e0, e1, e2⟩ := hH.2 s hs
  obtain ⟨th2, l2, z2, g, e02, e12, e22⟩ := hH.2 q hq
  have hth : th = 0 ∨ th = 1 := by rcases e2 with z | z; exact Or.inl z.1; exact Or.inr z.1
  have hth2 : th2 = 0 ∨ th2 = 1 := by rcases e22 with z | z; exact Or.inl z.1; exact Or.inr z.1
  obtain ⟨-, rfl, k, hk, rfl, t4, t5, t6⟩ := sh_yes e2 (nlt.mp hn)
  obtain ⟨-, rfl, k2, hk2, rfl, t42, t52, t62⟩ := sh_yes e22 hn2
  refine il1 dX7_copy_0 ?_
  refine s_X7_230 dX7_copy_1 (cn_X7_isSheet _) ⟨lb rfl, lb rfl, lb rfl, lb rfl⟩ ?_
  refine xt_if_eq 14 dX7_copy_4 rfl (fun q => absurd q (fl1 ⟨nI_pos' (by omega), nI_lt (b := 4) hs (by decide)⟩)) (fun _ => ?_)
  refine il3 dX7_copy_7 ?_
  refine s_X7_230 dX7_copy_8 (cn_X7_isSheet _) ⟨lb rfl, lb rfl, lb rfl, lb rfl⟩ ?_
  refine xt_if_ne 17 dX7_copy_11 rfl (fun _ => ?_) (fun q => absurd q (fl1 ⟨nI_pos' (by omega), nI_lt (b := 4) hq (by decide)⟩))
  refine al0 dX7_copy_17 ?_
  refine g_X7_41 dX7_copy_18 a0 ?_
  refine il1 dX7_copy_21 ?_
  refine xt_aald4 (s) hH.1 (by omega) rfl (by decide) rfl dX7_copy_22 ?_
  refine as6 dX7_copy_23 (by decide) rfl ?_
  refine al0 dX7_copy_25 ?_
  refine g_X7_41 dX7_copy_26 a0 ?_
  refine il3 dX7_copy_29 ?_
  refine xt_aald4 (q) hH.1 (by omega) rfl (by decide) rfl dX7_copy_30 ?_
  refine as7 dX7_copy_31 (by decide) rfl ?_
  refine al6 dX7_copy_33 ?_
  refine g_X7_252 dX7_copy_35 e0 ?_
  refine xt_if_eq 49 dX7_copy_38 rfl (fun q => absurd q (by decide)) (fun _ => ?_)
  refine al7 dX7_copy_41 ?_
  refine g_X7_252 dX7_copy_43 e02 ?_
  refine xt_if_ne 52 dX7_copy_46 rfl (fun _ => ?_) (fun q => absurd q (by decide))
  refine al6 dX7_copy_52 ?_
  refine g_X7_259 dX7_copy_54 e0 ?_
  refine al7 dX7_copy_57 ?_
  refine g_X7_259 dX7_copy_59 e02 ?_
  refine xt_icmp_eq 69 dX7_copy_62 rfl (fun q => absurd q (fun e => hc (by rw [t5, t52]; exact e))) (fun _ => ?_)
  refine kw_X7_262 dX7_copy_65 ?_
  exact xt_iret dX7_copy_68 rfl (lb rfl) (lb rfl) ⟨rfl, ⟨hI, FM_rf⟩, rfl⟩
theorem ag_ho {a : Int32} {c : Int32} (e : c = if a = 0 then (-1000013 : Int32) else 0) (h : ¬ c = 0) : a = 0 := by
  by_cases z : a = 0
  · exact z
  · rw [if_neg z] at e; exact absurd e h
theorem ag_ho' {a : Int32} {c : Int32} (e : c = if a = 0 then (-1000013 : Int32) else 0) (h : c = 0) : ¬ a = 0 := by
  intro z
  rw [if_pos z, h] at e; exact absurd e (by decide)
set_option maxHeartbeats 400000 in
set_option maxRecDepth 100000 in
theorem cr_X7_copy_i1 {h : ax_H} {n : Nat} {r : Nat → Int32} {m : Nat} {R : Nat → Nat → Int32} {u : Nat} {im iu : Int32} {Wi : Nat → Nat → Int32} {t : Nat} {tp mn la : Nat → Int32} {it : Nat → Int64} (hI : CB h r m R u im iu Wi t tp mn la it) (s q : Nat) (hs : s < 4) (hq : q < 4) (i j z : Int32) (hn : ¬ mn s < 0) (hn2 : 0 ≤ mn q) (hc : la s = la q) (h1 : ¬ agV mn la s (la s) i z = 0) : ax_C yX7_copy cX7_copy 8 (some .int) 1 0 0 [.ref 0, .int (nI s), .int i, .int (nI q), .int j, .int z] h n (kE ((-1000013)) (fun h2 => CB h2 r m R u im iu Wi t tp mn la it ∧ FM n h h2) n) := by
  refine ax_C.go RX7 "copy" [some (.ref 0), some (.int (nI s)), some (.int i), some (.int (nI q)), some (.int j), some (.int z), none, none] rfl rfl pn_X7 (lb rfl) rfl (fun l G cy bs => ?_)
  obtain ⟨a0, hS, hA, hW, hRd, hG, hM, hH⟩ := (id hI : CB h _ _ _ _ _ _ _ _ _ _ _ _)
  obtain ⟨sp, pi, pp, nw, bz, hd, dw, k1, hP, ⟨s1, s2, s3, s4, s5, s6⟩, k4⟩ := (id hS : SR h 1 _ _)
  obtain ⟨⟨fs1, o1⟩, o17, ⟨fs6, o115⟩, hu6, hm12⟩ := CB.o hI
  have hbz := s5.b
  have him := hM.b
  obtain ⟨th, l0, z0, f, e0, e1, e2⟩ := hH.2 s hs
  obtain ⟨th2, l2, z2, g, e02, e12, e22⟩ := hH.2 q hq
  have hth : th = 0 ∨ th = 1 := by rcases e2 with z | z; exact Or.inl z.1; exact Or.inr z.1
  have hth2 : th2 = 0 ∨ th2 = 1 := by rcases e22 with z | z; exact Or.inl z.1; exact Or.inr z.1
  obtain ⟨-, rfl, k, hk, rfl, t4, t5, t6⟩ := sh_yes e2 (nlt.mp hn)
  obtain ⟨-, rfl, k2, hk2, rfl, t42, t52, t62⟩ := sh_yes e22 hn2
  refine il1 dX7_copy_0 ?_
  refine s_X7_230 dX7_copy_1 (cn_X7_isSheet _) ⟨lb rfl, lb rfl, lb rfl, lb rfl⟩ ?_
  refine xt_if_eq 14 dX7_copy_4 rfl (fun q => absurd q (fl1 ⟨nI_pos' (by omega), nI_lt (b := 4) hs (by decide)⟩)) (fun _ => ?_)
  refine il3 dX7_copy_7 ?_
  refine s_X7_230 dX7_copy_8 (cn_X7_isSheet _) ⟨lb rfl, lb rfl, lb rfl, lb rfl⟩ ?_
  refine xt_if_ne 17 dX7_copy_11 rfl (fun _ => ?_) (fun q => absurd q (fl1 ⟨nI_pos' (by omega), nI_lt (b := 4) hq (by decide)⟩))
  refine al0 dX7_copy_17 ?_
  refine g_X7_41 dX7_copy_18 a0 ?_
  refine il1 dX7_copy_21 ?_
  refine xt_aald4 (s) hH.1 (by omega) rfl (by decide) rfl dX7_copy_22 ?_
  refine as6 dX7_copy_23 (by decide) rfl ?_
  refine al0 dX7_copy_25 ?_
  refine g_X7_41 dX7_copy_26 a0 ?_
  refine il3 dX7_copy_29 ?_
  refine xt_aald4 (q) hH.1 (by omega) rfl (by decide) rfl dX7_copy_30 ?_
  refine as7 dX7_copy_31 (by decide) rfl ?_
  refine al6 dX7_copy_33 ?_
  refine g_X7_252 dX7_copy_35 e0 ?_
  refine xt_if_eq 49 dX7_copy_38 rfl (fun q => absurd q (by decide)) (fun _ => ?_)
  refine al7 dX7_copy_41 ?_
  refine g_X7_252 dX7_copy_43 e02 ?_
  refine xt_if_ne 52 dX7_copy_46 rfl (fun _ => ?_) (fun q => absurd q (by decide))
  refine al6 dX7_copy_52 ?_
  refine g_X7_259 dX7_copy_54 e0 ?_
  refine al7 dX7_copy_57 ?_
  refine g_X7_259 dX7_copy_59 e02 ?_
  refine xt_icmp_eq 69 dX7_copy_62 rfl (fun _ => ?_) (fun q => absurd (by rw [← t5, ← t52]; exact hc) q)
  refine al6 dX7_copy_69 ?_
  refine il2 dX7_copy_71 ?_
  refine il5 dX7_copy_72 ?_
  refine s_X7_263 dX7_copy_74 (cn_X4_holds e0 _ _) e0 ⟨lb rfl, lb rfl, lb rfl, lb rfl⟩ ?_
  refine xt_if_eq 92 dX7_copy_77 rfl (fun _ => ?_) (fun q => absurd (ag_ho (ho_ag (h := h) (f := f) (it := it) ⟨k, hk, rfl, t4, t5, t6⟩ _ _) h1) q)
  refine kw_X7_267 dX7_copy_92 ?_
  exact xt_iret dX7_copy_95 rfl (lb rfl) (lb rfl) ⟨rfl, ⟨hI, FM_rf⟩, rfl⟩
set_option maxHeartbeats 400000 in
set_option maxRecDepth 100000 in
theorem cr_X7_copy_i2 {h : ax_H} {n : Nat} {r : Nat → Int32} {m : Nat} {R : Nat → Nat → Int32} {u : Nat} {im iu : Int32} {Wi : Nat → Nat → Int32} {t : Nat} {tp mn la : Nat → Int32} {it : Nat → Int64} (hI : CB h r m R u im iu Wi t tp mn la it) (s q : Nat) (hs : s < 4) (hq : q < 4) (i j z : Int32) (hn : ¬ mn s < 0) (hn2 : 0 ≤ mn q) (hc : la s = la q) (h1 : agV mn la s (la s) i z = 0) (h2 : ¬ agV mn la q (la q) j z = 0) : ax_C yX7_copy cX7_copy 8 (some .int) 1 0 0 [.ref 0, .int (nI s), .int i, .int (nI q), .int j, .int z] h n (kE ((-1000013)) (fun h2 => CB h2 r m R u im iu Wi t tp mn la it ∧ FM n h h2) n) := by
  refine ax_C.go RX7 "copy" [some (.ref 0), some (.int (nI s)), some (.int i), some (.int (nI q)), some (.int j), some (.int z), none, none] rfl rfl pn_X7 (lb rfl) rfl (fun l G cy bs => ?_)
  obtain ⟨a0, hS, hA, hW, hRd, hG, hM, hH⟩ := (id hI : CB h _ _ _ _ _ _ _ _ _ _ _ _)
  obtain ⟨sp, pi, pp, nw, bz, hd, dw, k1, hP, ⟨s1, s2, s3, s4, s5, s6⟩, k4⟩ := (id hS : SR h 1 _ _)
  obtain ⟨⟨fs1, o1⟩, o17, ⟨fs6, o115⟩, hu6, hm12⟩ := CB.o hI
  have hbz := s5.b
  have him := hM.b
  obtain ⟨th, l0, z0, f, e0, e1, e2⟩ := hH.2 s hs
  obtain ⟨th2, l2, z2, g, e02, e12, e22⟩ := hH.2 q hq
  have hth : th = 0 ∨ th = 1 := by rcases e2 with z | z; exact Or.inl z.1; exact Or.inr z.1
  have hth2 : th2 = 0 ∨ th2 = 1 := by rcases e22 with z | z; exact Or.inl z.1; exact Or.inr z.1
  obtain ⟨-, rfl, k, hk, rfl, t4, t5, t6⟩ := sh_yes e2 (nlt.mp hn)
  obtain ⟨-, rfl, k2, hk2, rfl, t42, t52, t62⟩ := sh_yes e22 hn2
  refine il1 dX7_copy_0 ?_
  refine s_X7_230 dX7_copy_1 (cn_X7_isSheet _) ⟨lb rfl, lb rfl, lb rfl, lb rfl⟩ ?_
  refine xt_if_eq 14 dX7_copy_4 rfl (fun q => absurd q (fl1 ⟨nI_pos' (by omega), nI_lt (b := 4) hs (by decide)⟩)) (fun _ => ?_)
  refine il3 dX7_copy_7 ?_
  refine s_X7_230 dX7_copy_8 (cn_X7_isSheet _) ⟨lb rfl, lb rfl, lb rfl, lb rfl⟩ ?_
  refine xt_if_ne 17 dX7_copy_11 rfl (fun _ => ?_) (fun q => absurd q (fl1 ⟨nI_pos' (by omega), nI_lt (b := 4) hq (by decide)⟩))
  refine al0 dX7_copy_17 ?_
  refine g_X7_41 dX7_copy_18 a0 ?_
  refine il1 dX7_copy_21 ?_
  refine xt_aald4 (s) hH.1 (by omega) rfl (by decide) rfl dX7_copy_22 ?_
  refine as6 dX7_copy_23 (by decide) rfl ?_
  refine al0 dX7_copy_25 ?_
  refine g_X7_41 dX7_copy_26 a0 ?_
  refine il3 dX7_copy_29 ?_
  refine xt_aald4 (q) hH.1 (by omega) rfl (by decide) rfl dX7_copy_30 ?_
  refine as7 dX7_copy_31 (by decide) rfl ?_
  refine al6 dX7_copy_33 ?_
  refine g_X7_252 dX7_copy_35 e0 ?_
  refine xt_if_eq 49 dX7_copy_38 rfl (fun q => absurd q (by decide)) (fun _ => ?_)
  refine al7 dX7_copy_41 ?_
  refine g_X7_252 dX7_copy_43 e02 ?_
  refine xt_if_ne 52 dX7_copy_46 rfl (fun _ => ?_) (fun q => absurd q (by decide))
  refine al6 dX7_copy_52 ?_
  refine g_X7_259 dX7_copy_54 e0 ?_
  refine al7 dX7_copy_57 ?_
  refine g_X7_259 dX7_copy_59 e02 ?_
  refine xt_icmp_eq 69 dX7_copy_62 rfl (fun _ => ?_) (fun q => absurd (by rw [← t5, ← t52]; exact hc) q)
  refine al6 dX7_copy_69 ?_
  refine il2 dX7_copy_71 ?_
  refine il5 dX7_copy_72 ?_
  refine s_X7_263 dX7_copy_74 (cn_X4_holds e0 _ _) e0 ⟨lb rfl, lb rfl, lb rfl, lb rfl⟩ ?_
  refine xt_if_eq 92 dX7_copy_77 rfl (fun q => absurd q (ag_ho' (ho_ag (h := h) (f := f) (it := it) ⟨k, hk, rfl, t4, t5, t6⟩ _ _) h1)) (fun _ => ?_)
  refine al7 dX7_copy_80 ?_
  refine il4 dX7_copy_82 ?_
  refine il5 dX7_copy_84 ?_
  refine s_X7_263 dX7_copy_86 (cn_X4_holds e02 _ _) e02 ⟨lb rfl, lb rfl, lb rfl, lb rfl⟩ ?_
  refine xt_if_ne 96 dX7_copy_89 rfl (fun q => absurd (ag_ho (ho_ag (h := h) (f := g) (it := it) ⟨k2, hk2, rfl, t42, t52, t62⟩ _ _) h2) q) (fun _ => ?_)
  refine kw_X7_267 dX7_copy_92 ?_
  exact xt_iret dX7_copy_95 rfl (lb rfl) (lb rfl) ⟨rfl, ⟨hI, FM_rf⟩, rfl⟩
set_option maxHeartbeats 400000 in
set_option maxRecDepth 100000 in
theorem cr_X7_copy {h : ax_H} {n : Nat} {r : Nat → Int32} {m : Nat} {R : Nat → Nat → Int32} {u : Nat} {im iu : Int32} {Wi : Nat → Nat → Int32} {t : Nat} {tp mn la : Nat → Int32} {it : Nat → Int64} (hI : CB h r m R u im iu Wi t tp mn la it) (s q i j z : Nat) (hs : s < 4) (hq : q < 4) (hn : ¬ mn s < 0) (hn2 : 0 ≤ mn q) (hc : la s = la q) (hi : i + z ≤ 24) (hj : j + z ≤ 24) (h1 : agV mn la s (la s) (nI i) (nI z) = 0) (h2 : agV mn la q (la q) (nI j) (nI z) = 0) : ax_C yX7_copy cX7_copy 8 (some .int) 1 0 0 [.ref 0, .int (nI s), .int (nI i), .int (nI q), .int (nI j), .int (nI z)] h n (kE (nI z) (fun h2 => CB h2 r m R u im iu Wi t tp mn la (cyI it (24 * s + i) (24 * q + j) z) ∧ FM n h h2) n) := by
  refine ax_C.go RX7 "copy" [some (.ref 0), some (.int (nI s)), some (.int (nI i)), some (.int (nI q)), some (.int (nI j)), some (.int (nI z)), none, none] rfl rfl pn_X7 (lb rfl) rfl (fun l G cy bs => ?_)
  obtain ⟨a0, hS, hA, hW, hRd, hG, hM, hH⟩ := (id hI : CB h _ _ _ _ _ _ _ _ _ _ _ _)
  obtain ⟨sp, pi, pp, nw, bz, hd, dw, k1, hP, ⟨s1, s2, s3, s4, s5, s6⟩, k4⟩ := (id hS : SR h 1 _ _)
  obtain ⟨⟨fs1, o1⟩, o17, ⟨fs6, o115⟩, hu6, hm12⟩ := CB.o hI
  have hbz := s5.b
  have him := hM.b
  obtain ⟨th, l0, z0, f, e0, e1, e2⟩ := hH.2 s hs
  obtain ⟨th2, l2, z2, g, e02, e12, e22⟩ := hH.2 q hq
  have hth : th = 0 ∨ th = 1 := by rcases e2 with z | z; exact Or.inl z.1; exact Or.inr z.1
  have hth2 : th2 = 0 ∨ th2 = 1 := by rcases e22 with z | z; exact Or.inl z.1; exact Or.inr z.1
  obtain ⟨-, rfl, k, hk, rfl, t4, t5, t6⟩ := sh_yes e2 (nlt.mp hn)
  obtain ⟨-, rfl, k2, hk2, rfl, t42, t52, t62⟩ := sh_yes e22 hn2
  obtain ⟨-, a, ta, tb⟩ := ag_nat (y := z) hk (by omega) t4 h1
  obtain rfl : i = a := (nI_eq (by omega) (by omega)).mp ta
  obtain ⟨-, a2, ta2, tb2⟩ := ag_nat (y := z) hk2 (by omega) t42 h2
  obtain rfl : j = a2 := (nI_eq (by omega) (by omega)).mp ta2
  refine il1 dX7_copy_0 ?_
  refine s_X7_230 dX7_copy_1 (cn_X7_isSheet _) ⟨lb rfl, lb rfl, lb rfl, lb rfl⟩ ?_
  refine xt_if_eq 14 dX7_copy_4 rfl (fun q => absurd q (fl1 ⟨nI_pos' (by omega), nI_lt (b := 4) hs (by decide)⟩)) (fun _ => ?_)
  refine il3 dX7_copy_7 ?_
  refine s_X7_230 dX7_copy_8 (cn_X7_isSheet _) ⟨lb rfl, lb rfl, lb rfl, lb rfl⟩ ?_
  refine xt_if_ne 17 dX7_copy_11 rfl (fun _ => ?_) (fun q => absurd q (fl1 ⟨nI_pos' (by omega), nI_lt (b := 4) hq (by decide)⟩))
  refine al0 dX7_copy_17 ?_
  refine g_X7_41 dX7_copy_18 a0 ?_
  refine il1 dX7_copy_21 ?_
  refine xt_aald4 (s) hH.1 (by omega) rfl (by decide) rfl dX7_copy_22 ?_
  refine as6 dX7_copy_23 (by decide) rfl ?_
  refine al0 dX7_copy_25 ?_
  refine g_X7_41 dX7_copy_26 a0 ?_
  refine il3 dX7_copy_29 ?_
  refine xt_aald4 (q) hH.1 (by omega) rfl (by decide) rfl dX7_copy_30 ?_
  refine as7 dX7_copy_31 (by decide) rfl ?_
  refine al6 dX7_copy_33 ?_
  refine g_X7_252 dX7_copy_35 e0 ?_
  refine xt_if_eq 49 dX7_copy_38 rfl (fun q => absurd q (by decide)) (fun _ => ?_)
  refine al7 dX7_copy_41 ?_
  refine g_X7_252 dX7_copy_43 e02 ?_
  refine xt_if_ne 52 dX7_copy_46 rfl (fun _ => ?_) (fun q => absurd q (by decide))
  refine al6 dX7_copy_52 ?_
  refine g_X7_259 dX7_copy_54 e0 ?_
  refine al7 dX7_copy_57 ?_
  refine g_X7_259 dX7_copy_59 e02 ?_
  refine xt_icmp_eq 69 dX7_copy_62 rfl (fun _ => ?_) (fun q => absurd (by rw [← t5, ← t52]; exact hc) q)
  refine al6 dX7_copy_69 ?_
  refine il2 dX7_copy_71 ?_
  refine il5 dX7_copy_72 ?_
  refine s_X7_263 dX7_copy_74 (cn_X4_holds e0 _ _) e0 ⟨lb rfl, lb rfl, lb rfl, lb rfl⟩ ?_
  refine xt_if_eq 92 dX7_copy_77 rfl (fun q => absurd q (ag_ho' (ho_ag (h := h) (f := f) (it := it) ⟨k, hk, rfl, t4, t5, t6⟩ _ _) h1)) (fun _ => ?_)
  refine al7 dX7_copy_80 ?_
  refine il4 dX7_copy_82 ?_
  refine il5 dX7_copy_84 ?_
  refine s_X7_263 dX7_copy_86 (cn_X4_holds e02 _ _) e02 ⟨lb rfl, lb rfl, lb rfl, lb rfl⟩ ?_
  refine xt_if_ne 96 dX7_copy_89 rfl (fun _ => ?_) (fun q => absurd q (ag_ho' (ho_ag (h := h) (f := g) (it := it) ⟨k2, hk2, rfl, t42, t52, t62⟩ _ _) h2))
  refine al6 dX7_copy_96 ?_
  refine g_X7_268 dX7_copy_98 e0 ?_
  refine il2 dX7_copy_101 ?_
  refine al7 dX7_copy_102 ?_
  refine g_X7_268 dX7_copy_104 e02 ?_
  refine il4 dX7_copy_107 ?_
  refine il5 dX7_copy_109 ?_
  refine s_X7_272l (i) (j) (z) dX7_copy_111 e1 e12 rfl rfl rfl (by omega) (by omega) ⟨by decide, by decide⟩ ⟨lb rfl, lb rfl⟩ ?_
  refine il5 dX7_copy_114 ?_
  exact xt_iret dX7_copy_116 rfl (lb rfl) (lb rfl) ⟨rfl, (by
    have w := SHS_put (h2 := hp h (251 + 2 * q + 1) (ax_L 24 (va_cpy f g i j z))) (mn2 := mn) (la2 := la) (it2 := cyI it (24 * s + i) (24 * q + j) z) hH hq (fun p hp_ => by rw [hp_n _ _ (by omega)]) ⟨1, l2, nI k2, _, hp_nt (by omega) e02, hp_s _ _ _, Or.inr ⟨rfl, k2, hk2, rfl, t42, t52, fun p hp_ => by
      unfold va_cpy cyI
      by_cases e : j ≤ p ∧ p < j + z
      · rw [if_pos e, if_pos (by omega), t6 _ (by omega)]; congr 1; omega
      · rw [if_neg e, if_neg (by omega)]; exact t62 p hp_⟩⟩ (fun k3 hk3 hne => ⟨rfl, rfl, fun p hp_ => by unfold cyI; rw [if_neg (by omega)]⟩)
    exact ⟨hI.sh w.1 w.2, FM_fr (by omega) w.2⟩), rfl⟩
set_option maxHeartbeats 400000 in
set_option maxRecDepth 100000 in
theorem cr_X7_off_b {h : ax_H} {n : Nat} {r : Nat → Int32} {m : Nat} {R : Nat → Nat → Int32} {u : Nat} {im iu : Int32} {Wi : Nat → Nat → Int32} {t : Nat} {tp mn la : Nat → Int32} {it : Nat → Int64} (hI : CB h r m R u im iu Wi t tp mn la it) (x : Int32) (hx : ¬ (0 ≤ x ∧ x ≤ 1)) : ax_C yX7_off cX7_off 4 (some .int) 3 1 2 [.ref 0, .int x] h n (kE ((-1000001)) (fun h2 => CB h2 r m R u im iu Wi t tp mn la it ∧ FM n h h2) n) := by
  refine ax_C.go RX7 "off" [some (.ref 0), some (.int x), none, none] rfl rfl pn_X7 (lb rfl) rfl (fun l G cy bs => ?_)
  obtain ⟨a0, hS, hA, hW, hRd, hG, hM, hH⟩ := (id hI : CB h _ _ _ _ _ _ _ _ _ _ _ _)
  obtain ⟨sp, pi, pp, nw, bz, hd, dw, k1, hP, ⟨s1, s2, s3, s4, s5, s6⟩, k4⟩ := (id hS : SR h 1 _ _)
  obtain ⟨⟨fs1, o1⟩, o17, ⟨fs6, o115⟩, hu6, hm12⟩ := CB.o hI
  have hbz := s5.b
  have him := hM.b
  refine il1 dX7_off_0 ?_
  refine s_X7_188 dX7_off_1 (cn_X7_isSide _) ⟨lb rfl, lb rfl, lb rfl, lb rfl⟩ ?_
  refine xt_if_ne 10 dX7_off_4 rfl (fun q => absurd (fl0 (fun y => hx (sd.mp y))) q) (fun _ => ?_)
  refine k_X7_64 dX7_off_7 ?_
  exact xt_iret dX7_off_9 rfl (lb rfl) (lb rfl) ⟨rfl, ⟨hI, FM_rf⟩, rfl⟩
set_option maxHeartbeats 400000 in
set_option maxRecDepth 100000 in
theorem cn_X0_init {h : ax_H} {n : Nat}  {p : Nat} {a b : Int32} (h0 : h p = some (eFr a b)) : ax_C yX0_init cX0_init 1 none 1 0 0 [.ref p] h n (kv (hp h p (eFr 0 1)) n) := by
  refine ax_C.go RX0 "<init>" [some (.ref p)] rfl rfl pn_X0 (lb rfl) rfl (fun l G cy bs => ?_)
  refine al0 dX0_init_0 ?_
  refine s_X0_1 dX0_init_1 ⟨lb rfl, lb rfl⟩ ?_
  refine al0 dX0_init_4 ?_
  refine xt_iconst (0) dX0_init_5 rfl ?_
  refine p_X0_7 dX0_init_6 h0 ?_
  refine al0 dX0_init_9 ?_
  refine xt_iconst (1) dX0_init_10 rfl ?_
  refine p_X0_13 dX0_init_11 (hp_s _ _ _) ?_
  refine xt_eq (hp_hp _ _ _ _) ?_
  exact xt_ret dX0_init_14 rfl (lb rfl) (lb rfl) ⟨rfl, rfl, rfl⟩
set_option maxHeartbeats 400000 in
set_option maxRecDepth 100000 in
theorem cr_X7_off {h : ax_H} {n : Nat} {r : Nat → Int32} {m : Nat} {R : Nat → Nat → Int32} {u : Nat} {im iu : Int32} {Wi : Nat → Nat → Int32} {t : Nat} {tp mn la : Nat → Int32} {it : Nat → Int64} (hI : CB h r m R u im iu Wi t tp mn la it) (hn : 259 ≤ n) (x rr : Int32) (hx : 0 ≤ x ∧ x ≤ 1) (hrr : ∀ a b, MX (SB r m) a b → lw a b x = rr) : ax_C yX7_off cX7_off 4 (some .int) 3 1 2 [.ref 0, .int x] h n (kE rr (fun h2 => CB h2 r m R u im iu Wi t tp mn la it ∧ FM n h h2) (n + 1)) := by
  refine ax_C.go RX7 "off" [some (.ref 0), some (.int x), none, none] rfl rfl pn_X7 (lb rfl) rfl (fun l G cy bs => ?_)
  obtain ⟨a0, hS, hA, hW, hRd, hG, hM, hH⟩ := (id hI : CB h _ _ _ _ _ _ _ _ _ _ _ _)
  obtain ⟨sp, pi, pp, nw, bz, hd, dw, k1, hP, ⟨s1, s2, s3, s4, s5, s6⟩, k4⟩ := (id hS : SR h 1 _ _)
  obtain ⟨⟨fs1, o1⟩, o17, ⟨fs6, o115⟩, hu6, hm12⟩ := CB.o hI
  have hbz := s5.b
  have him := hM.b
  have lp : ∀ (d k : Nat), k + d = m → ∀ (a1 b1 : Nat), MX (SB r k) a1 b1 → ax_T l G cy bs (ax_rm 3 1 2) RX7 "off" cX7_off 4 (some .int) (kE rr (fun h2 => CB h2 r m R u im iu Wi t tp mn la it ∧ FM n h h2) (n + 1)) 1 2 41 [some (.ref 0), some (.int x), some (.ref n), some (.int (nI k))] [] (hp h n (eFr (nI a1) (nI b1))) (n + 1) (0 + 1) (0 + 2) := by
    intro d
    induction d with
    | zero =>
      intro k hk a1 b1 hm1
      obtain rfl : k = m := by omega
      have hl := lw_eq (a := a1) (b := b1) (by have := hm1.1; omega) (by have := hm1.2.2.1; omega) (by have := hm1.2.1; omega) x
      refine il3 dX7_off_41 ?_
      refine al0 dX7_off_42 ?_
      refine g_X7_12 dX7_off_43 (hp_nt (by omega) a0) ?_
      refine g_X7_68 dX7_off_46 (hp_nt (by omega) k1.1) ?_
      refine xt_icmp_ge 71 dX7_off_49 rfl (fun _ => ?_) (fun q => absurd (nI_le (Nat.le_refl _) (by omega)) q)
      refine al2 dX7_off_71 ?_
      refine il1 dX7_off_72 ?_
      refine s_X7_204 dX7_off_73 (cn_X0_lowest (hp_s _ _ _) x hl.1) (hp_s _ _ _) ⟨lb rfl, lb rfl, lb rfl, lb rfl⟩ ?_
      exact xt_iret dX7_off_76 rfl (lb rfl) (lb rfl) ⟨by rw [hl.2, hrr a1 b1 hm1], ⟨hI.tr (fun j hj => hp_n _ _ (by omega)), fun j a b => hp_n _ _ (by omega)⟩, rfl⟩
    | succ d ih =>
      intro k hk a1 b1 hm1
      have hpk := hP.1 k (by omega)
      have hq4 : ∀ j, j < 4 → pp (pi k) j = r (13 + 4 * k + j) := fun j hj => by rw [s4 k (by omega) j (by omega), tl_at r k hj]
      have hqa := hq4 0 (by omega)
      have hqb := hq4 1 (by omega)
      have hqc := hq4 2 (by omega)
      have hqd := hq4 3 (by omega)
      rw [Nat.add_zero] at hqa
      refine il3 dX7_off_41 ?_
      refine al0 dX7_off_42 ?_
      refine g_X7_12 dX7_off_43 (hp_nt (by omega) a0) ?_
      refine g_X7_68 dX7_off_46 (hp_nt (by omega) k1.1) ?_
      refine xt_icmp_ge 71 dX7_off_49 rfl (fun q => absurd q (nI_ge (by omega) (by omega))) (fun _ => ?_)
      refine al0 dX7_off_52 ?_
      refine g_X7_12 dX7_off_53 (hp_nt (by omega) a0) ?_
      refine g_X7_72 dX7_off_56 (hp_nt (by omega) k1.1) ?_
      refine il3 dX7_off_59 ?_
      refine xt_aald3 (k) (hp_nt (by omega) k1.2.2.1) (by omega) rfl (by decide) rfl dX7_off_60 ?_
      refine al2 dX7_off_61 ?_
      refine sP_X7_200 dX7_off_62 (cr_X2_raiseOff (hp_nt (by omega) (k1.2.2.2.2 (pi k) hpk)) (hp_s _ _ _) (by omega) hm1 (by rw [hqa, hqb, hqc, hqd]; exact k4.1.2.2 k (by omega))) (hp_nt (by omega) (k1.2.2.2.2 (pi k) hpk)) ⟨lb rfl, lb rfl, lb rfl, lb rfl⟩ ?_
      rintro h2 ⟨a2, b2, rfl, hm2⟩
      refine xt_eq (hp_hp _ _ _ _) ?_
      rw [hqa, hqb, hqc, hqd] at hm2
      refine inc3 (nI (k + 1)) dX7_off_65 (nI_1 _) (by decide) rfl ?_
      refine xt_goto 41 dX7_off_68 rfl ?_
      exact ih (k + 1) (by omega) a2 b2 (MX_congr (fun x t => SB_s x t) hm2)
  refine il1 dX7_off_0 ?_
  refine s_X7_188 dX7_off_1 (cn_X7_isSide _) ⟨lb rfl, lb rfl, lb rfl, lb rfl⟩ ?_
  refine xt_if_ne 10 dX7_off_4 rfl (fun _ => ?_) (fun q => absurd q (fl1 (sd.mpr hx)))
  refine nw_X7_197 dX7_off_10 ⟨lb rfl, lb rfl⟩ ?_
  refine xt_dup dX7_off_13 rfl ?_
  refine s_X7_199 dX7_off_14 (cn_X0_init (hp_s _ _ _)) ⟨lb rfl, lb rfl, lb rfl, lb rfl⟩ ?_
  refine xt_eq (hp_hp _ _ _ _) ?_
  refine as2 dX7_off_17 (by decide) rfl ?_
  refine al0 dX7_off_18 ?_
  refine g_X7_12 dX7_off_19 (hp_nt (by omega) a0) ?_
  refine g_X7_80 dX7_off_22 (hp_nt (by omega) k1.1) ?_
  refine xt_if_eq 39 dX7_off_25 rfl (fun c25 => ?_) (fun c25 => ?_)
  · refine xt_iconst (0) dX7_off_39 rfl ?_
    refine is3 dX7_off_40 (by decide) rfl ?_
    exact lp m 0 (by omega) 0 1 (MX_congr (fun x t => (SB_0 x t).trans ⟨fun z => z.elim id (fun y => absurd c25 (NB1 s5 y.1).1), fun z => z.elim⟩) MX_0)
  · have hpos : 0 ≤ r 5 := Classical.byContradiction (fun z => c25 (NB0 s5 z))
    have hnq := (NB1 s5 hpos).2
    have hm1 := MX_0
    refine al0 dX7_off_28 ?_
    refine g_X7_12 dX7_off_29 (hp_nt (by omega) a0) ?_
    refine g_X7_83 dX7_off_32 (hp_nt (by omega) k1.1) ?_
    refine al2 dX7_off_35 ?_
    refine sP_X7_200 dX7_off_36 (cr_X2_raiseOff (hp_nt (by omega) k1.2.2.2.1) (hp_s _ _ _) (by omega) hm1 (by rw [hnq.1, hnq.2.1, hnq.2.2.1, hnq.2.2.2.1]; exact now_ok k4 hpos)) (hp_nt (by omega) k1.2.2.2.1) ⟨lb rfl, lb rfl, lb rfl, lb rfl⟩ ?_
    rintro h2 ⟨a2, b2, rfl, hm2⟩
    refine xt_eq (hp_hp _ _ _ _) ?_
    rw [hnq.1, hnq.2.1, hnq.2.2.1, hnq.2.2.2.1] at hm2
    refine xt_iconst (0) dX7_off_39 rfl ?_
    refine is3 dX7_off_40 (by decide) rfl ?_
    exact lp m 0 (by omega) a2 b2 (MX_congr (fun x t => (SB_0 x t).trans ⟨fun z => z.elim (fun y => Or.inl y) (fun y => Or.inr y.2), fun z => z.elim (fun y => Or.inl y) (fun y => Or.inr ⟨hpos, y⟩)⟩) hm2)
