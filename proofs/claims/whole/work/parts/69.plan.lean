theorem PA.z {h : ax_H} {R : Nat → Nat → Int32} {u : Nat} (hA : PA h 17 R u) : PA (hp h 17 (ePa 17 (nI 0))) 17 R 0 := by
  obtain ⟨ka, e1, e2, hu, hv, hx, -⟩ := hA
  exact ⟨ka, hp_s _ _ _, hp_nt (by decide) e2, by omega, hv, fun i hi => (hx i hi).fr (fun j a b => hp_n _ _ (by omega)), fun i hi => by omega⟩
set_option maxHeartbeats 400000 in
set_option maxRecDepth 100000 in
theorem cr_X7_plan_f {h : ax_H} {n : Nat} {r : Nat → Int32} {m : Nat} {R : Nat → Nat → Int32} {u : Nat} {im iu : Int32} {Wi : Nat → Nat → Int32} {t : Nat} {tp mn la : Nat → Int32} {it : Nat → Int64} (hI : CB h r m R u im iu Wi t tp mn la it) (a : Nat) (q : Nat → Int32) (hres : rPl tp t = (none, a, q)) : ax_C yX7_plan cX7_plan 5 (some .int) 10 0 0 [.ref 0] h n (kE (-1000020 - nI a) (fun h2 => CB h2 r m R u im iu Wi (0) tp mn la it ∧ FM n h h2) n) := by
  refine ax_C.go RX7 "plan" [some (.ref 0), none, none, none, none] rfl rfl pn_X7 (lb rfl) rfl (fun l G cy bs => ?_)
  obtain ⟨a0, hS, hA, hW, hRd, hG, hM, hH⟩ := (id hI : CB h _ _ _ _ _ _ _ _ _ _ _ _)
  obtain ⟨sp, pi, pp, nw, bz, hd, dw, k1, hP, ⟨s1, s2, s3, s4, s5, s6⟩, k4⟩ := (id hS : SR h 1 _ _)
  obtain ⟨⟨fs1, o1⟩, o17, ⟨fs6, o115⟩, hu6, hm12⟩ := CB.o hI
  have hbz := s5.b
  have him := hM.b
  obtain ⟨⟨fo, aT, h119⟩, ht, ⟨g, hT, hg⟩, h121, ⟨f, h122⟩, hpc, ho⟩ := (id hRd : RD h t tp)
  refine al0 dX7_plan_0 ?_
  refine g_X7_35 dX7_plan_1 a0 ?_
  refine sP_X7_96 dX7_plan_4 (cn_X3_readPlan h119 hT hg ht h121 h122 ho hpc _ hres) h119 ⟨lb rfl, lb rfl, lb rfl, lb rfl⟩ ?_
  rintro h2 ⟨fo2, b119, ⟨f2, b122⟩, bfr, bpc, bN⟩
  have a02 : h2 0 = some (eX7 im) := by rw [bfr _ (by omega)]; exact a0
  have hfr : fr 119 16 h (hp h2 119 (eRd (nI 0) fo2 (nI a))) := fun j hj => by rw [hp_n _ _ (by omega)]; exact bfr j (by omega)
  have hRD : RD (hp h2 119 (eRd (nI 0) fo2 (nI a))) 0 tp := ⟨⟨fo2, nI a, hp_s _ _ _⟩, by omega, ⟨g, hp_nt (by decide) (by rw [bfr _ (by omega)]; exact hT), fun j hj => by omega⟩, hp_nt (by decide) (by rw [bfr _ (by omega)]; exact h121), ⟨f2, hp_nt (by decide) b122⟩, fun i hi => by obtain ⟨q1, e⟩ := bpc i hi; exact ⟨q1, hp_nt (by omega) e⟩, fun j hj => by omega⟩
  refine xt_eqv 0 rfl ?_
  refine is1 dX7_plan_7 (by decide) rfl ?_
  refine al0 dX7_plan_8 ?_
  refine g_X7_35 dX7_plan_9 a02 ?_
  refine g_X7_100 dX7_plan_12 b119 ?_
  refine is2 dX7_plan_15 (by decide) rfl ?_
  refine al0 dX7_plan_16 ?_
  refine g_X7_35 dX7_plan_17 a02 ?_
  refine xt_iconst (0) dX7_plan_20 rfl ?_
  refine p_X7_92 dX7_plan_21 b119 ?_
  refine il1 dX7_plan_24 ?_
  refine xt_if_ne 33 dX7_plan_25 rfl (fun q => absurd (by decide) q) (fun _ => ?_)
  refine k_X7_103 dX7_plan_28 ?_
  refine il2 dX7_plan_30 ?_
  refine xt_isub dX7_plan_31 ?_
  exact xt_iret dX7_plan_32 rfl (lb rfl) (lb rfl) ⟨rfl, ⟨hI.rd hRD hfr, FM_fr (by omega) hfr⟩, rfl⟩
set_option maxHeartbeats 400000 in
set_option maxRecDepth 100000 in
theorem cr_X7_plan {h : ax_H} {n : Nat} {r : Nat → Int32} {m : Nat} {R : Nat → Nat → Int32} {u : Nat} {im iu : Int32} {Wi : Nat → Nat → Int32} {t : Nat} {tp mn la : Nat → Int32} {it : Nat → Int64} (hI : CB h r m R u im iu Wi t tp mn la it) (N a : Nat) (q : Nat → Int32) (hres : rPl tp t = (some N, a, q)) : ax_C yX7_plan cX7_plan 5 (some .int) 10 0 0 [.ref 0] h n (kE (nI N) (fun h2 => CB h2 (plR r q N) (N) R (0) im iu Wi (0) tp mn la it ∧ FM n h h2) n) := by
  refine ax_C.go RX7 "plan" [some (.ref 0), none, none, none, none] rfl rfl pn_X7 (lb rfl) rfl (fun l G cy bs => ?_)
  obtain ⟨a0, hS, hA, hW, hRd, hG, hM, hH⟩ := (id hI : CB h _ _ _ _ _ _ _ _ _ _ _ _)
  obtain ⟨sp, pi, pp, nw, bz, hd, dw, k1, hP, ⟨s1, s2, s3, s4, s5, s6⟩, k4⟩ := (id hS : SR h 1 _ _)
  obtain ⟨⟨fs1, o1⟩, o17, ⟨fs6, o115⟩, hu6, hm12⟩ := CB.o hI
  have hbz := s5.b
  have him := hM.b
  obtain ⟨⟨fo, aT, h119⟩, ht, ⟨g, hT, hg⟩, h121, ⟨f, h122⟩, hpc, ho⟩ := (id hRd : RD h t tp)
  obtain ⟨hN12, hok⟩ := rPl_ok ho (N := N) (by rw [hres])
  rw [hres] at hok
  have go : ∀ hB : ax_H, CB hB r m R u im iu Wi 0 tp mn la it → FM n h hB → hB 119 = some (eRd (nI 0) (nI N) (nI a)) → hB 121 = some (ax_R 3 12 (fun k => some (123 + k))) → (∀ i, i < N → hB (123 + i) = some (ePc (tl (q (4 * i)) (q (4 * i + 1)) (q (4 * i + 2)) (q (4 * i + 3))))) → ax_T l G cy bs (ax_rm 10 0 0) RX7 "plan" cX7_plan 5 (some .int) (kE (nI N) (fun h2 => CB h2 (plR r q N) (N) R (0) im iu Wi (0) tp mn la it ∧ FM n h h2) n) 0 0 33 [some (.ref 0), some (.int 1), some (.int (nI a)), none, none] [] hB n 0 0 := by
    intro hB hIB hFB e119 e121 epc
    have hoB := CB.o hIB
    obtain ⟨⟨fsB, o1B⟩, o17B, -⟩ := hoB
    have a0B := hIB.1
    have lp : ∀ (d k : Nat), k + d = N → ∀ (A : Option Value) (h1 : ax_H), SR h1 1 (plR r q k) k → fr 1 16 hB h1 → ax_T l G cy bs (ax_rm 10 0 0) RX7 "plan" cX7_plan 5 (some .int) (kE (nI N) (fun h2 => CB h2 (plR r q N) (N) R (0) im iu Wi (0) tp mn la it ∧ FM n h h2) n) 0 0 42 [some (.ref 0), some (.int 1), some (.int (nI a)), some (.int (nI k)), A] [] h1 n 0 0 := by
      intro d
      induction d with
      | zero =>
        intro k hk A h1 s1 f1
        have a01 : h1 0 = some (eX7 im) := by rw [f1 _ (by omega)]; exact a0B
        have c119 : h1 119 = some (eRd (nI 0) (nI N) (nI a)) := by rw [f1 _ (by omega)]; exact e119
        obtain rfl : k = N := by omega
        obtain ⟨sp1, pi1, pp1, nw1, bz1, hd1, dw1, k11, -⟩ := (id s1 : SR h1 1 _ _)
        have c17 : h1 17 = some (ePa 17 (nI u)) := by rw [f1 _ (by omega)]; exact o17B
        have hI1 := hIB.st s1 f1
        refine il3 dX7_plan_42 ?_
        refine al0 dX7_plan_43 ?_
        refine g_X7_35 dX7_plan_44 a01 ?_
        refine g_X7_107 dX7_plan_47 c119 ?_
        refine xt_icmp_ge 97 dX7_plan_50 rfl (fun _ => ?_) (fun q => absurd (nI_le (by omega) (by omega)) q)
        refine al0 dX7_plan_97 ?_
        refine g_X7_19 dX7_plan_98 a01 ?_
        refine xt_iconst (0) dX7_plan_101 rfl ?_
        refine p_X7_131 dX7_plan_102 c17 ?_
        refine al0 dX7_plan_105 ?_
        refine g_X7_12 dX7_plan_106 (hp_nt (by omega) a01) ?_
        refine g_X7_68 dX7_plan_109 (hp_nt (by omega) k11.1) ?_
        exact xt_iret dX7_plan_112 rfl (lb rfl) (lb rfl) ⟨rfl, ⟨hI1.pa hI1.2.2.1.z (fun j hj => hp_n _ _ (by omega)), FM_tr hFB (FM_tr (FM_fr (by omega) f1) (fun j a b => hp_n _ _ (by omega)))⟩, rfl⟩
      | succ d ih =>
        intro k hk A h1 s1 f1
        have a01 : h1 0 = some (eX7 im) := by rw [f1 _ (by omega)]; exact a0B
        have c119 : h1 119 = some (eRd (nI 0) (nI N) (nI a)) := by rw [f1 _ (by omega)]; exact e119
        obtain ⟨fs1, c1⟩ := s1.sx.o
        have c121 : h1 121 = some (ax_R 3 12 (fun k => some (123 + k))) := by rw [f1 _ (by omega)]; exact e121
        have cpk : h1 (123 + k) = some (ePc (tl (q (4 * k)) (q (4 * k + 1)) (q (4 * k + 2)) (q (4 * k + 3)))) := by rw [f1 _ (by omega)]; exact epc k (by omega)
        refine il3 dX7_plan_42 ?_
        refine al0 dX7_plan_43 ?_
        refine g_X7_35 dX7_plan_44 a01 ?_
        refine g_X7_107 dX7_plan_47 c119 ?_
        refine xt_icmp_ge 97 dX7_plan_50 rfl (fun q => absurd q (nI_ge (by omega) (by omega))) (fun _ => ?_)
        refine al0 dX7_plan_53 ?_
        refine g_X7_35 dX7_plan_54 a01 ?_
        refine g_X7_110 dX7_plan_57 c119 ?_
        refine il3 dX7_plan_60 ?_
        refine xt_aald3 (k) c121 (by omega) rfl (by decide) rfl dX7_plan_61 ?_
        refine as4 dX7_plan_62 (by decide) rfl ?_
        refine al0 dX7_plan_64 ?_
        refine g_X7_12 dX7_plan_65 a01 ?_
        refine al4 dX7_plan_68 ?_
        refine g_X7_113 dX7_plan_70 cpk ?_
        refine xt_eqv (q (4 * k)) rfl ?_
        refine al4 dX7_plan_73 ?_
        refine g_X7_118 dX7_plan_75 cpk ?_
        refine xt_eqv (q (4 * k + 1)) rfl ?_
        refine al4 dX7_plan_78 ?_
        refine g_X7_121 dX7_plan_80 cpk ?_
        refine xt_eqv (q (4 * k + 2)) rfl ?_
        refine al4 dX7_plan_83 ?_
        refine g_X7_124 dX7_plan_85 cpk ?_
        refine xt_eqv (q (4 * k + 3)) rfl ?_
        refine sP_X7_127 dX7_plan_88 (cr_X5_addLast s1 (by omega) (hok k (by omega))) c1 ⟨lb rfl, lb rfl, lb rfl, lb rfl⟩ ?_
        rintro h4 ⟨s4, f4⟩
        refine inc3 (nI (k + 1)) dX7_plan_91 (nI_1 _) (by decide) rfl ?_
        refine xt_goto 42 dX7_plan_94 rfl ?_
        exact ih (k + 1) (by omega) _ h4 s4 (fun j hj => (f4 j hj).trans (f1 j hj))
    refine al0 dX7_plan_33 ?_
    refine g_X7_12 dX7_plan_34 a0B ?_
    refine sP_X7_104 dX7_plan_37 (cr_X5_clear hIB.2.1) o1B ⟨lb rfl, lb rfl, lb rfl, lb rfl⟩ ?_
    rintro h3 ⟨s3, f3⟩
    refine xt_iconst (0) dX7_plan_40 rfl ?_
    refine is3 dX7_plan_41 (by decide) rfl ?_
    exact lp N 0 (by omega) _ h3 s3 f3
  refine al0 dX7_plan_0 ?_
  refine g_X7_35 dX7_plan_1 a0 ?_
  refine sP_X7_96 dX7_plan_4 (cn_X3_readPlan h119 hT hg ht h121 h122 ho hpc _ hres) h119 ⟨lb rfl, lb rfl, lb rfl, lb rfl⟩ ?_
  rintro h2 ⟨fo2, b119, ⟨f2, b122⟩, bfr, bpc, bN⟩
  have a02 : h2 0 = some (eX7 im) := by rw [bfr _ (by omega)]; exact a0
  have hfr : fr 119 16 h (hp h2 119 (eRd (nI 0) fo2 (nI a))) := fun j hj => by rw [hp_n _ _ (by omega)]; exact bfr j (by omega)
  have hRD : RD (hp h2 119 (eRd (nI 0) fo2 (nI a))) 0 tp := ⟨⟨fo2, nI a, hp_s _ _ _⟩, by omega, ⟨g, hp_nt (by decide) (by rw [bfr _ (by omega)]; exact hT), fun j hj => by omega⟩, hp_nt (by decide) (by rw [bfr _ (by omega)]; exact h121), ⟨f2, hp_nt (by decide) b122⟩, fun i hi => by obtain ⟨q1, e⟩ := bpc i hi; exact ⟨q1, hp_nt (by omega) e⟩, fun j hj => by omega⟩
  refine xt_eqv 1 rfl ?_
  refine is1 dX7_plan_7 (by decide) rfl ?_
  refine al0 dX7_plan_8 ?_
  refine g_X7_35 dX7_plan_9 a02 ?_
  refine g_X7_100 dX7_plan_12 b119 ?_
  refine is2 dX7_plan_15 (by decide) rfl ?_
  refine al0 dX7_plan_16 ?_
  refine g_X7_35 dX7_plan_17 a02 ?_
  refine xt_iconst (0) dX7_plan_20 rfl ?_
  refine p_X7_92 dX7_plan_21 b119 ?_
  refine il1 dX7_plan_24 ?_
  refine xt_if_ne 33 dX7_plan_25 rfl (fun _ => ?_) (fun q => absurd q (by decide))
  obtain ⟨rfl, bq⟩ := bN N rfl
  exact go _ (hI.rd hRD hfr) (FM_fr (by omega) hfr) (hp_s _ _ _) (hp_nt (by decide) (by rw [bfr _ (by omega)]; exact h121)) (fun i hi => hp_nt (by omega) (bq i hi))
