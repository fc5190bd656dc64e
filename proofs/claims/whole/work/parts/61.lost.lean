/-! lost: moves, places, weights -/
def mvF (r : Nat → Int32) (p : Nat) : Int32 := mo (nxN (p / 3) r) (p % 3)
abbrev bitV (st : Int32) (k : Nat) : Int32 := (st >>> (nI k &&& 31)) &&& 1
def enS (r : Nat → Int32) (st : Int32) (a : Nat) : Nat → Int32
  | 0 => r a
  | k + 1 => if bitV st k = 0 then enS r st a k else enS r st a k + mvF r (3 * k + a)
def wtN (st : Int32) (c : Nat) : Nat → Nat
  | 0 => 1
  | k + 1 => wtN st c k * (if bitV st k = 0 then c else 10 - c)
def smN (r : Nat → Int32) (N c : Nat) (x y z : Int32) : Nat → Nat
  | 0 => 0
  | j + 1 => smN r N c x y z j + (if enS r (nI j) 0 N = x ∧ enS r (nI j) 1 N = y ∧ enS r (nI j) 2 N = z then wtN (nI j) c N else 0)
theorem wt_le {st : Int32} {c : Nat} (hc : c ≤ 10) : ∀ k, wtN st c k ≤ 10 ^ k
  | 0 => Nat.le_refl 1
  | k + 1 => by
    have ih := wt_le (st := st) hc k
    show wtN st c k * _ ≤ 10 ^ k * 10
    refine Nat.mul_le_mul ih ?_
    split <;> omega
theorem p10 {N : Nat} (h : N ≤ 6) : 10 ^ N ≤ 1000000 := Nat.le_trans (Nat.pow_le_pow_right (by omega) h) (by decide)
theorem p10p (N : Nat) : 0 < 10 ^ N := Nat.pow_pos (by omega)
theorem p2 {N : Nat} (h : N ≤ 6) : 2 ^ N ≤ 64 := Nat.le_trans (Nat.pow_le_pow_right (by omega) h) (by decide)
theorem sm_le {r : Nat → Int32} {N c : Nat} {x y z : Int32} (hc : c ≤ 10) (hN : N ≤ 6) : ∀ j, smN r N c x y z j ≤ j * 1000000
  | 0 => by simp [smN]
  | j + 1 => by
    have ih := sm_le (r := r) (x := x) (y := y) (z := z) hc hN j
    have h1 := Nat.le_trans (wt_le (st := nI j) hc N) (p10 hN)
    rw [smN, Nat.succ_mul]
    refine Nat.add_le_add ih ?_
    split
    · exact h1
    · exact Nat.zero_le _
theorem sm_0 {r : Nat → Int32} {N c j : Nat} {x y z : Int32} (h : ¬ (enS r (nI j) 0 N = x ∧ enS r (nI j) 1 N = y ∧ enS r (nI j) 2 N = z)) : smN r N c x y z (j + 1) = smN r N c x y z j := by
  rw [smN, if_neg h, Nat.add_zero]
theorem sm_1 {r : Nat → Int32} {N c j : Nat} {x y z : Int32} (h1 : enS r (nI j) 0 N = x) (h2 : enS r (nI j) 1 N = y) (h3 : enS r (nI j) 2 N = z) : smN r N c x y z (j + 1) = smN r N c x y z j + wtN (nI j) c N := by
  rw [smN, if_pos ⟨h1, h2, h3⟩]
theorem bit01 (st : Int32) (k : Nat) : bitV st k = 0 ∨ bitV st k = 1 := by
  obtain ⟨j, hj, e⟩ := pk_andE (st >>> (nI k &&& 31)) (m := 1) 1 (by decide)
  rcases (show j = 0 ∨ j = 1 by omega) with rfl | rfl
  · exact Or.inl e
  · exact Or.inr e
theorem shl1 : ∀ N, N < 7 → (1 : Int32) <<< (nI N &&& 31) = nI (2 ^ N) := by decide +kernel
theorem c10 {c : Nat} (hc : c ≤ 10) : 10 - nI c = nI (10 - c) := pk_sub (a := 10) (b := c) hc
theorem wt_s {st : Int32} {c : Nat} (hc : c ≤ 10) (k : Nat) : nI (wtN st c k) * (if bitV st k = 0 then nI c else 10 - nI c) = nI (wtN st c (k + 1)) := by
  show _ = nI (wtN st c k * _)
  rw [← pk_mul, c10 hc]
  congr 1
  split <;> rfl
theorem wt_0 {st : Int32} {c k : Nat} (hc : c ≤ 10) (hb : bitV st k = 0) : lN (wtN st c k) * (nI c).toInt64 = lN (wtN st c (k + 1)) := by
  rw [nI_l (by omega), lN_mul]
  show _ = lN (wtN st c k * _)
  rw [if_pos hb]
theorem wt_1 {st : Int32} {c k : Nat} (hc : c ≤ 10) (hb : ¬ bitV st k = 0) : lN (wtN st c k) * (10 - nI c).toInt64 = lN (wtN st c (k + 1)) := by
  rw [c10 hc, nI_l (by omega), lN_mul]
  show _ = lN (wtN st c k * _)
  rw [if_neg hb]
theorem en_0 {r : Nat → Int32} {st : Int32} {a k : Nat} (hb : bitV st k = 0) : enS r st a (k + 1) = enS r st a k := by
  show (if _ then _ else _) = _; rw [if_pos hb]
theorem en_1 {r : Nat → Int32} {st : Int32} {a k : Nat} (hb : ¬ bitV st k = 0) : enS r st a (k + 1) = enS r st a k + mvF r (3 * k + a) := by
  show (if _ then _ else _) = _; rw [if_neg hb]
theorem nxN_s : ∀ (k : Nat) (r : Nat → Int32), nxN (k + 1) r = nx (nxN k r)
  | 0, _ => rfl
  | k + 1, r => nxN_s k (nx r)
theorem mv_at (r : Nat → Int32) (k : Nat) {a : Nat} (ha : a < 3) : mvF r (3 * k + a) = mo (nxN k r) a := by
  unfold mvF
  rw [show (3 * k + a) / 3 = k by omega, show (3 * k + a) % 3 = a by omega]
theorem mv3 {g : Nat → Int32} {r : Nat → Int32} {k : Nat} {v0 v1 v2 : Int32} (hg : ∀ p, p < 3 * k → g p = mvF r p) (h0 : v0 = mo (nxN k r) 0) (h1 : v1 = mo (nxN k r) 1) (h2 : v2 = mo (nxN k r) 2) : ∀ p, p < 3 * (k + 1) → upd (upd (upd g (3 * k) v0) (3 * k + 1) v1) (3 * k + 2) v2 p = mvF r p := by
  intro p hp
  have e0 := mv_at r k (a := 0) (by omega)
  have e1 := mv_at r k (a := 1) (by omega)
  have e2 := mv_at r k (a := 2) (by omega)
  simp only [upd]
  by_cases c2 : p = 3 * k + 2
  · rw [if_pos c2, c2, e2, h2]
  · rw [if_neg c2]
    by_cases c1 : p = 3 * k + 1
    · rw [if_pos c1, c1, e1, h1]
    · rw [if_neg c1]
      by_cases c0 : p = 3 * k
      · rw [if_pos c0, c0, h0]; exact e0.symm
      · rw [if_neg c0]; exact hg p (by omega)
set_option maxHeartbeats 400000 in
set_option maxRecDepth 100000 in
theorem cr_X7_gatherMoves {h : ax_H} {n : Nat} {r : Nat → Int32} {m : Nat} {R : Nat → Nat → Int32} {u : Nat} {im iu : Int32} {Wi : Nat → Nat → Int32} {t : Nat} {tp mn la : Nat → Int32} {it : Nat → Int64} (hI : CB h r m R u im iu Wi t tp mn la it) (N : Nat) (hN : N ≤ 6) (hL0 : N ≤ LN r m) : ax_C yX7_gatherMoves cX7_gatherMoves 4 none 5 0 0 [.ref 0, .int (nI N)] h n (kP (fun h2 => (CB h2 r m R u im iu Wi t tp mn la it ∧ FM n h h2) ∧ ∃ g, h2 136 = some (ax_I 18 g) ∧ ∀ p, p < 3 * N → g p = mvF r p) n) := by
  refine ax_C.go RX7 "gatherMoves" [some (.ref 0), some (.int (nI N)), none, none] rfl rfl pn_X7 (lb rfl) rfl (fun l G cy bs => ?_)
  obtain ⟨a0, hS, hA, hW, hRd, hG, hM, hH⟩ := (id hI : CB h _ _ _ _ _ _ _ _ _ _ _ _)
  obtain ⟨sp, pi, pp, nw, bz, hd, dw, k1, hP, ⟨s1, s2, s3, s4, s5, s6⟩, k4⟩ := (id hS : SR h 1 _ _)
  obtain ⟨⟨fs1, o1⟩, o17, ⟨fs6, o115⟩, hu6, hm12⟩ := CB.o hI
  have hbz := s5.b
  have him := hM.b
  obtain ⟨g0, hg0⟩ := hG
  have lp : ∀ (d k : Nat), k + d = N → ∀ (A : Option Value) (h1 : ax_H) (r1 : Nat → Int32) (t1 : Nat) (f1 g1 : Nat → Int32) (g : Nat → Int32), CB h1 r m R u im iu Wi t tp mn la it → FM n h h1 → WR h1 115 1 r m r1 t1 f1 g1 → h1 136 = some (ax_I 18 g) → r1 = nxN k r → LN r1 (m - t1) + k = LN r m → (∀ p, p < 3 * k → g p = mvF r p) → ax_T l G cy bs (ax_rm 5 0 0) RX7 "gatherMoves" cX7_gatherMoves 4 none (kP (fun h2 => (CB h2 r m R u im iu Wi t tp mn la it ∧ FM n h h2) ∧ ∃ g, h2 136 = some (ax_I 18 g) ∧ ∀ p, p < 3 * N → g p = mvF r p) n) 0 0 9 [some (.ref 0), some (.int (nI N)), some (.int (nI k)), A] [] h1 n 0 0 := by
    intro d
    induction d with
    | zero =>
      intro k hk A h1 r1 t1 f1 g1 g hI1 hF1 w1 hg hr hL hp
      obtain ⟨q1, bz1, wf1, ws1, wj1, wb1, wr1⟩ := (id w1 : WR h1 115 1 _ _ _ _ _ _)
      have a01 := hI1.1
      obtain rfl : k = N := by omega
      refine il2 dX7_gatherMoves_9 ?_
      refine il1 dX7_gatherMoves_10 ?_
      refine xt_icmp_ge 66 dX7_gatherMoves_11 rfl (fun _ => ?_) (fun q => absurd (nI_le (by omega) (by omega)) q)
      exact xt_ret dX7_gatherMoves_66 rfl (lb rfl) (lb rfl) ⟨rfl, ⟨⟨hI1, hF1⟩, g, hg, hp⟩, rfl⟩
    | succ d ih =>
      intro k hk A h1 r1 t1 f1 g1 g hI1 hF1 w1 hg hr hL hp
      obtain ⟨q1, bz1, wf1, ws1, wj1, wb1, wr1⟩ := (id w1 : WR h1 115 1 _ _ _ _ _ _)
      have a01 := hI1.1
      have hfl : ¬ rFlag r1 = 0 := fun z => by have := (LN_flag wr1.2.1).mp z; omega
      refine il2 dX7_gatherMoves_9 ?_
      refine il1 dX7_gatherMoves_10 ?_
      refine xt_icmp_ge 66 dX7_gatherMoves_11 rfl (fun q => absurd q (nI_ge (by omega) (by omega))) (fun _ => ?_)
      refine il2 dX7_gatherMoves_14 ?_
      refine xt_bipush (6) dX7_gatherMoves_15 rfl ?_
      refine xt_icmp_ge 66 dX7_gatherMoves_17 rfl (fun q => absurd q (nI_ge (b := 6) (by omega) (by decide))) (fun _ => ?_)
      refine al0 dX7_gatherMoves_20 ?_
      refine g_X7_28 dX7_gatherMoves_21 a01 ?_
      refine sP_X7_184 dX7_gatherMoves_24 (cr_X6_advance w1 (by omega)) wf1.1 ⟨lb rfl, lb rfl, lb rfl, lb rfl⟩ ?_
      rintro h2 ⟨⟨t2, f2, g2, w2, gm2⟩, hf2⟩
      obtain ⟨q2, bz2, wf2, ws2, wj2, wb2, wr2⟩ := (id w2 : WR h2 115 1 _ _ _ _ _ _)
      have hI2 := hI1.wk w2.wx hf2
      have a02 := hI2.1
      have hg2 : h2 136 = some (ax_I 18 g) := by rw [hf2 _ (by omega)]; exact hg
      have hgm := gm2 hfl
      obtain ⟨L, hL0⟩ : ∃ L, LN r1 (m - t1) = L + 1 := ⟨LN r1 (m - t1) - 1, by omega⟩
      have hL2 := LN_nx wr1.2.1 hfl wr2.2.1 hL0
      refine xt_pop dX7_gatherMoves_27 rfl ?_
      refine xt_iconst (0) dX7_gatherMoves_28 rfl ?_
      refine is3 dX7_gatherMoves_29 (by decide) rfl ?_
      refine il3 dX7_gatherMoves_30 ?_
      refine xt_iconst (3) dX7_gatherMoves_31 rfl ?_
      refine xt_icmp_ge 60 dX7_gatherMoves_32 rfl (fun q => absurd q (by decide)) (fun _ => ?_)
      refine al0 dX7_gatherMoves_35 ?_
      refine g_X7_45 dX7_gatherMoves_36 a02 ?_
      refine il2 dX7_gatherMoves_39 ?_
      refine xt_iconst (3) dX7_gatherMoves_40 rfl ?_
      refine xt_imul dX7_gatherMoves_41 ?_
      refine il3 dX7_gatherMoves_42 ?_
      refine xt_iadd dX7_gatherMoves_43 ?_
      refine al0 dX7_gatherMoves_44 ?_
      refine g_X7_28 dX7_gatherMoves_45 a02 ?_
      refine g_X7_191 dX7_gatherMoves_48 wf2.1 ?_
      refine il3 dX7_gatherMoves_51 ?_
      refine xt_iald (0) wf2.2.2.2 (by omega) rfl (by decide) dX7_gatherMoves_52 ?_
      refine xt_iast (3 * k) hg2 (by omega) ((ne_add (a := k * 3) (b := 0) (ne_mul (a := k) (b := 3) rfl rfl) rfl).trans (congrArg nI (by omega))) (by decide) dX7_gatherMoves_53 ?_
      refine inc3 (1) dX7_gatherMoves_54 rfl (by decide) rfl ?_
      refine xt_goto 30 dX7_gatherMoves_57 rfl ?_
      refine il3 dX7_gatherMoves_30 ?_
      refine xt_iconst (3) dX7_gatherMoves_31 rfl ?_
      refine xt_icmp_ge 60 dX7_gatherMoves_32 rfl (fun q => absurd q (by decide)) (fun _ => ?_)
      refine al0 dX7_gatherMoves_35 ?_
      refine g_X7_45 dX7_gatherMoves_36 (hp_nt (by omega) a02) ?_
      refine il2 dX7_gatherMoves_39 ?_
      refine xt_iconst (3) dX7_gatherMoves_40 rfl ?_
      refine xt_imul dX7_gatherMoves_41 ?_
      refine il3 dX7_gatherMoves_42 ?_
      refine xt_iadd dX7_gatherMoves_43 ?_
      refine al0 dX7_gatherMoves_44 ?_
      refine g_X7_28 dX7_gatherMoves_45 (hp_nt (by omega) a02) ?_
      refine g_X7_191 dX7_gatherMoves_48 (hp_nt (by omega) wf2.1) ?_
      refine il3 dX7_gatherMoves_51 ?_
      refine xt_iald (1) (hp_nt (by omega) wf2.2.2.2) (by omega) rfl (by decide) dX7_gatherMoves_52 ?_
      refine xt_iast (3 * k + 1) (hp_s _ _ _) (by omega) ((ne_add (a := k * 3) (b := 1) (ne_mul (a := k) (b := 3) rfl rfl) rfl).trans (congrArg nI (by omega))) (by decide) dX7_gatherMoves_53 ?_
      refine xt_eq (hp_hp _ _ _ _) ?_
      refine inc3 (2) dX7_gatherMoves_54 rfl (by decide) rfl ?_
      refine xt_goto 30 dX7_gatherMoves_57 rfl ?_
      refine il3 dX7_gatherMoves_30 ?_
      refine xt_iconst (3) dX7_gatherMoves_31 rfl ?_
      refine xt_icmp_ge 60 dX7_gatherMoves_32 rfl (fun q => absurd q (by decide)) (fun _ => ?_)
      refine al0 dX7_gatherMoves_35 ?_
      refine g_X7_45 dX7_gatherMoves_36 (hp_nt (by omega) a02) ?_
      refine il2 dX7_gatherMoves_39 ?_
      refine xt_iconst (3) dX7_gatherMoves_40 rfl ?_
      refine xt_imul dX7_gatherMoves_41 ?_
      refine il3 dX7_gatherMoves_42 ?_
      refine xt_iadd dX7_gatherMoves_43 ?_
      refine al0 dX7_gatherMoves_44 ?_
      refine g_X7_28 dX7_gatherMoves_45 (hp_nt (by omega) a02) ?_
      refine g_X7_191 dX7_gatherMoves_48 (hp_nt (by omega) wf2.1) ?_
      refine il3 dX7_gatherMoves_51 ?_
      refine xt_iald (2) (hp_nt (by omega) wf2.2.2.2) (by omega) rfl (by decide) dX7_gatherMoves_52 ?_
      refine xt_iast (3 * k + 2) (hp_s _ _ _) (by omega) ((ne_add (a := k * 3) (b := 2) (ne_mul (a := k) (b := 3) rfl rfl) rfl).trans (congrArg nI (by omega))) (by decide) dX7_gatherMoves_53 ?_
      refine xt_eq (hp_hp _ _ _ _) ?_
      refine inc3 (3) dX7_gatherMoves_54 rfl (by decide) rfl ?_
      refine xt_goto 30 dX7_gatherMoves_57 rfl ?_
      refine il3 dX7_gatherMoves_30 ?_
      refine xt_iconst (3) dX7_gatherMoves_31 rfl ?_
      refine xt_icmp_ge 60 dX7_gatherMoves_32 rfl (fun _ => ?_) (fun q => absurd (by decide) q)
      refine inc2 (nI (k + 1)) dX7_gatherMoves_60 (nI_1 _) (by decide) rfl ?_
      refine xt_goto 9 dX7_gatherMoves_63 rfl ?_
      exact ih (k + 1) (by omega) _ _ (nx r1) t2 f2 g2 _ (hI2.mv ⟨_, hp_s _ _ _⟩ (fun j hj => hp_n _ _ (by omega))) (FM_tr hF1 (FM_tr (FM_fr (by omega) hf2) (fun j a b => hp_n _ _ (by omega)))) (w2.fr (fun j a b => hp_n _ _ (by omega)) (fun j a b => hp_n _ _ (by omega))) (hp_s _ _ _) (by rw [nxN_s, hr]) (by omega) (mv3 hp (by rw [← hr]; exact hgm 0 (by omega)) (by rw [← hr]; exact hgm 1 (by omega)) (by rw [← hr]; exact hgm 2 (by omega)))
  refine al0 dX7_gatherMoves_0 ?_
  refine g_X7_28 dX7_gatherMoves_1 a0 ?_
  refine sP_X7_175 dX7_gatherMoves_4 (cr_X6_begin hW hS (by omega)) o115 ⟨lb rfl, lb rfl, lb rfl, lb rfl⟩ ?_
  rintro h1 ⟨⟨f1, g1, w1⟩, hF1⟩
  obtain ⟨q1, bz1, wf1, ws1, wj1, wb1, wr1⟩ := (id w1 : WR h1 115 1 _ _ _ _ _ _)
  have a01 : h1 0 = some (eX7 im) := by rw [hF1 _ (by omega)]; exact a0
  refine xt_iconst (0) dX7_gatherMoves_7 rfl ?_
  refine is2 dX7_gatherMoves_8 (by decide) rfl ?_
  exact lp N 0 (by omega) _ h1 r 0 f1 g1 g0 (hI.wk w1.wx hF1) (FM_fr (by omega) hF1) w1 (by rw [hF1 _ (by omega)]; exact hg0) rfl (by rw [Nat.sub_zero, Nat.add_zero]) (fun p hp => absurd hp (by omega))
set_option maxHeartbeats 400000 in
set_option maxRecDepth 100000 in
theorem cn_X7_endOf {h : ax_H} {n : Nat} {r : Nat → Int32} {m : Nat} {R : Nat → Nat → Int32} {u : Nat} {im iu : Int32} {Wi : Nat → Nat → Int32} {t : Nat} {tp mn la : Nat → Int32} {it : Nat → Int64} (hI : CB h r m R u im iu Wi t tp mn la it) {g : Nat → Int32} (hg : h 136 = some (ax_I 18 g)) (st : Int32) (N a : Nat) (hN : N ≤ 6) (ha : a < 3) (hp : ∀ p, p < 3 * N → g p = mvF r p) : ax_C yX7_endOf cX7_endOf 6 (some .int) 0 0 0 [.ref 0, .int st, .int (nI N), .int (nI a)] h n (ki (enS r st a N) h n) := by
  refine ax_C.go RX7 "endOf" [some (.ref 0), some (.int st), some (.int (nI N)), some (.int (nI a)), none, none] rfl rfl pn_X7 (lb rfl) rfl (fun l G cy bs => ?_)
  obtain ⟨a0, hS, hA, hW, hRd, hG, hM, hH⟩ := (id hI : CB h _ _ _ _ _ _ _ _ _ _ _ _)
  obtain ⟨sp, pi, pp, nw, bz, hd, dw, k1, hP, ⟨s1, s2, s3, s4, s5, s6⟩, k4⟩ := (id hS : SR h 1 _ _)
  obtain ⟨⟨fs1, o1⟩, o17, ⟨fs6, o115⟩, hu6, hm12⟩ := CB.o hI
  have hbz := s5.b
  have him := hM.b
  have lp : ∀ (d k : Nat), k + d = N → ax_T l G cy bs (ax_rm 0 0 0) RX7 "endOf" cX7_endOf 6 (some .int) (ki (enS r st a N) h n) 0 0 14 [some (.ref 0), some (.int st), some (.int (nI N)), some (.int (nI a)), some (.int (enS r st a k)), some (.int (nI k))] [] h n 0 0 := by
    intro d
    induction d with
    | zero =>
      intro k hk
      obtain rfl : k = N := by omega
      refine il5 dX7_endOf_14 ?_
      refine il2 dX7_endOf_16 ?_
      refine xt_icmp_ge 58 dX7_endOf_17 rfl (fun _ => ?_) (fun q => absurd (nI_le (by omega) (by omega)) q)
      refine il4 dX7_endOf_58 ?_
      exact xt_iret dX7_endOf_60 rfl (lb rfl) (lb rfl) ⟨rfl, rfl, rfl⟩
    | succ d ih =>
      intro k hk
      refine il5 dX7_endOf_14 ?_
      refine il2 dX7_endOf_16 ?_
      refine xt_icmp_ge 58 dX7_endOf_17 rfl (fun q => absurd q (nI_ge (by omega) (by omega))) (fun _ => ?_)
      refine il5 dX7_endOf_20 ?_
      refine xt_bipush (6) dX7_endOf_22 rfl ?_
      refine xt_icmp_ge 58 dX7_endOf_24 rfl (fun q => absurd q (nI_ge (b := 6) (by omega) (by decide))) (fun _ => ?_)
      refine il1 dX7_endOf_27 ?_
      refine il5 dX7_endOf_28 ?_
      refine xt_ishr dX7_endOf_30 ?_
      refine xt_iconst (1) dX7_endOf_31 rfl ?_
      refine xt_iand dX7_endOf_32 ?_
      refine xt_if_eq 52 dX7_endOf_33 rfl (fun c33 => ?_) (fun c33 => ?_)
      · refine inc5 (nI (k + 1)) dX7_endOf_52 (nI_1 _) (by decide) rfl ?_
        refine xt_goto 14 dX7_endOf_55 rfl ?_
        have e := en_0 c33  (r := r) (a := a)
        rw [← e]
        exact ih (k + 1) (by omega)
      · refine il4 dX7_endOf_36 ?_
        refine al0 dX7_endOf_38 ?_
        refine g_X7_45 dX7_endOf_39 a0 ?_
        refine il5 dX7_endOf_42 ?_
        refine xt_iconst (3) dX7_endOf_44 rfl ?_
        refine xt_imul dX7_endOf_45 ?_
        refine il3 dX7_endOf_46 ?_
        refine xt_iadd dX7_endOf_47 ?_
        refine xt_iald (3 * k + a) hg (by omega) ((ne_add (a := k * 3) (b := a) (ne_mul (a := k) (b := 3) rfl rfl) rfl).trans (congrArg nI (by omega))) (by decide) dX7_endOf_48 ?_
        refine xt_eqv (mvF r (3 * k + a)) (hp _ (by omega)) ?_
        refine xt_iadd dX7_endOf_49 ?_
        refine is4 dX7_endOf_50 (by decide) rfl ?_
        refine inc5 (nI (k + 1)) dX7_endOf_52 (nI_1 _) (by decide) rfl ?_
        refine xt_goto 14 dX7_endOf_55 rfl ?_
        have e := en_1 c33  (r := r) (a := a)
        rw [← e]
        exact ih (k + 1) (by omega)
  refine al0 dX7_endOf_0 ?_
  refine g_X7_12 dX7_endOf_1 a0 ?_
  refine g_X7_65 dX7_endOf_4 k1.1 ?_
  refine il3 dX7_endOf_7 ?_
  refine xt_iald (a) k1.2.1 (by omega) rfl (by decide) dX7_endOf_8 ?_
  refine xt_eqv (r a) (s1 a ha) ?_
  refine is4 dX7_endOf_9 (by decide) rfl ?_
  refine xt_iconst (0) dX7_endOf_11 rfl ?_
  refine is5 dX7_endOf_12 (by decide) rfl ?_
  exact lp N 0 (by omega)
set_option maxHeartbeats 400000 in
set_option maxRecDepth 100000 in
theorem cn_X7_weightOf {h : ax_H} {n : Nat}  (st : Int32) (N c : Nat) (hN : N ≤ 6) (hc : c ≤ 10) : ax_C yX7_weightOf cX7_weightOf 5 (some .int) 0 0 0 [.int st, .int (nI N), .int (nI c)] h n (ki (nI (wtN st c N)) h n) := by
  refine ax_C.go RX7 "weightOf" [some (.int st), some (.int (nI N)), some (.int (nI c)), none, none] rfl rfl pn_X7 (lb rfl) rfl (fun l G cy bs => ?_)
  have lp : ∀ (d k : Nat), k + d = N → ax_T l G cy bs (ax_rm 0 0 0) RX7 "weightOf" cX7_weightOf 5 (some .int) (ki (nI (wtN st c N)) h n) 0 0 5 [some (.int st), some (.int (nI N)), some (.int (nI c)), some (.int (nI (wtN st c k))), some (.int (nI k))] [] h n 0 0 := by
    intro d
    induction d with
    | zero =>
      intro k hk
      obtain rfl : k = N := by omega
      refine il4 dX7_weightOf_5 ?_
      refine il1 dX7_weightOf_7 ?_
      refine xt_icmp_ge 37 dX7_weightOf_8 rfl (fun _ => ?_) (fun q => absurd (nI_le (by omega) (by omega)) q)
      refine il3 dX7_weightOf_37 ?_
      exact xt_iret dX7_weightOf_38 rfl (lb rfl) (lb rfl) ⟨rfl, rfl, rfl⟩
    | succ d ih =>
      intro k hk
      refine il4 dX7_weightOf_5 ?_
      refine il1 dX7_weightOf_7 ?_
      refine xt_icmp_ge 37 dX7_weightOf_8 rfl (fun q => absurd q (nI_ge (by omega) (by omega))) (fun _ => ?_)
      refine il3 dX7_weightOf_11 ?_
      refine il0 dX7_weightOf_12 ?_
      refine il4 dX7_weightOf_13 ?_
      refine xt_ishr dX7_weightOf_15 ?_
      refine xt_iconst (1) dX7_weightOf_16 rfl ?_
      refine xt_iand dX7_weightOf_17 ?_
      apply xj_if_eq 28 dX7_weightOf_18 rfl
      · intro k18
        refine ⟨fun c18 => ?_, fun c18 => ?_⟩
        · refine il2 dX7_weightOf_28 ?_
          exact xt_it1 k18 c18
        · refine xt_bipush (10) dX7_weightOf_21 rfl ?_
          refine il2 dX7_weightOf_23 ?_
          refine xt_isub dX7_weightOf_24 ?_
          refine xt_goto 29 dX7_weightOf_25 rfl ?_
          exact xt_it2 k18 c18
      · skip
        refine xt_imul dX7_weightOf_29 ?_
        refine xt_eqv (nI (wtN st c (k + 1))) (wt_s hc k) ?_
        refine is3 dX7_weightOf_30 (by decide) rfl ?_
        refine inc4 (nI (k + 1)) dX7_weightOf_31 (nI_1 _) (by decide) rfl ?_
        refine xt_goto 5 dX7_weightOf_34 rfl ?_
        exact ih (k + 1) (by omega)
  refine xt_iconst (1) dX7_weightOf_0 rfl ?_
  refine is3 dX7_weightOf_1 (by decide) rfl ?_
  refine xt_iconst (0) dX7_weightOf_2 rfl ?_
  refine is4 dX7_weightOf_3 (by decide) rfl ?_
  exact lp N 0 (by omega)
theorem nge {x : Int32} (h : ¬ x < 0) : 0 ≤ x := by rw [fb_lt] at h; rw [fb_le]; omega
theorem ngt {x y : Int32} (h : ¬ y < x) : x ≤ y := by rw [fb_lt] at h; rw [fb_le]; omega
set_option maxHeartbeats 400000 in
set_option maxRecDepth 100000 in
theorem cr_X7_lost_b {h : ax_H} {n : Nat} {r : Nat → Int32} {m : Nat} {R : Nat → Nat → Int32} {u : Nat} {im iu : Int32} {Wi : Nat → Nat → Int32} {t : Nat} {tp mn la : Nat → Int32} {it : Nat → Int64} (hI : CB h r m R u im iu Wi t tp mn la it) (a c x y z wh : Int32) (hx : ¬ ((0 ≤ a ∧ a ≤ 6) ∧ a ≤ sLeft r m ∧ (0 ≤ c ∧ c ≤ 10) ∧ (0 ≤ wh ∧ wh ≤ 1))) : ax_C yX7_lost cX7_lost 10 (some .int) 6 1 2 [.ref 0, .int a, .int c, .int x, .int y, .int z, .int wh] h n (kE ((-1000001)) (fun h2 => CB h2 r m R u im iu Wi t tp mn la it ∧ FM n h h2) n) := by
  refine ax_C.go RX7 "lost" [some (.ref 0), some (.int a), some (.int c), some (.int x), some (.int y), some (.int z), some (.int wh), none, none, none] rfl rfl pn_X7 (lb rfl) rfl (fun l G cy bs => ?_)
  obtain ⟨a0, hS, hA, hW, hRd, hG, hM, hH⟩ := (id hI : CB h _ _ _ _ _ _ _ _ _ _ _ _)
  obtain ⟨sp, pi, pp, nw, bz, hd, dw, k1, hP, ⟨s1, s2, s3, s4, s5, s6⟩, k4⟩ := (id hS : SR h 1 _ _)
  obtain ⟨⟨fs1, o1⟩, o17, ⟨fs6, o115⟩, hu6, hm12⟩ := CB.o hI
  have hbz := s5.b
  have him := hM.b
  refine il1 dX7_lost_0 ?_
  refine xt_if_lt 39 dX7_lost_1 rfl (fun c1 => ?_) (fun c1 => ?_)
  · refine k_X7_64 dX7_lost_39 ?_
    exact xt_iret dX7_lost_41 rfl (lb rfl) (lb rfl) ⟨rfl, ⟨hI, FM_rf⟩, rfl⟩
  · refine il1 dX7_lost_4 ?_
    refine xt_bipush (6) dX7_lost_5 rfl ?_
    refine xt_icmp_gt 39 dX7_lost_7 rfl (fun c7 => ?_) (fun c7 => ?_)
    · refine k_X7_64 dX7_lost_39 ?_
      exact xt_iret dX7_lost_41 rfl (lb rfl) (lb rfl) ⟨rfl, ⟨hI, FM_rf⟩, rfl⟩
    · refine il1 dX7_lost_10 ?_
      refine al0 dX7_lost_11 ?_
      refine g_X7_12 dX7_lost_12 a0 ?_
      refine s_X7_137 dX7_lost_15 (cr_X5_remaining hS) k1.1 ⟨lb rfl, lb rfl, lb rfl, lb rfl⟩ ?_
      refine xt_icmp_gt 39 dX7_lost_18 rfl (fun c18 => ?_) (fun c18 => ?_)
      · refine k_X7_64 dX7_lost_39 ?_
        exact xt_iret dX7_lost_41 rfl (lb rfl) (lb rfl) ⟨rfl, ⟨hI, FM_rf⟩, rfl⟩
      · refine il2 dX7_lost_21 ?_
        refine xt_if_lt 39 dX7_lost_22 rfl (fun c22 => ?_) (fun c22 => ?_)
        · refine k_X7_64 dX7_lost_39 ?_
          exact xt_iret dX7_lost_41 rfl (lb rfl) (lb rfl) ⟨rfl, ⟨hI, FM_rf⟩, rfl⟩
        · refine il2 dX7_lost_25 ?_
          refine xt_bipush (10) dX7_lost_26 rfl ?_
          refine xt_icmp_gt 39 dX7_lost_28 rfl (fun c28 => ?_) (fun c28 => ?_)
          · refine k_X7_64 dX7_lost_39 ?_
            exact xt_iret dX7_lost_41 rfl (lb rfl) (lb rfl) ⟨rfl, ⟨hI, FM_rf⟩, rfl⟩
          · refine il6 dX7_lost_31 ?_
            refine s_X7_188 dX7_lost_33 (cn_X7_isSide _) ⟨lb rfl, lb rfl, lb rfl, lb rfl⟩ ?_
            refine xt_if_ne 42 dX7_lost_36 rfl (fun q => absurd (fl0 (fun q => hx ⟨⟨nge c1, ngt c7⟩, ngt c18, ⟨nge c22, ngt c28⟩, sd.mp q⟩)) q) (fun _ => ?_)
            refine k_X7_64 dX7_lost_39 ?_
            exact xt_iret dX7_lost_41 rfl (lb rfl) (lb rfl) ⟨rfl, ⟨hI, FM_rf⟩, rfl⟩
set_option maxHeartbeats 400000 in
set_option maxRecDepth 100000 in
theorem cr_X7_lost {h : ax_H} {n : Nat} {r : Nat → Int32} {m : Nat} {R : Nat → Nat → Int32} {u : Nat} {im iu : Int32} {Wi : Nat → Nat → Int32} {t : Nat} {tp mn la : Nat → Int32} {it : Nat → Int64} (hI : CB h r m R u im iu Wi t tp mn la it) (hn : 259 ≤ n) (N c : Nat) (hN : N ≤ 6) (hL : N ≤ LN r m) (hc : c ≤ 10) (x y z wh : Int32) (hw : 0 ≤ wh ∧ wh ≤ 1) : ax_C yX7_lost cX7_lost 10 (some .int) 6 1 2 [.ref 0, .int (nI N), .int (nI c), .int x, .int y, .int z, .int wh] h n (kE (lw (smN r N c x y z (2 ^ N)) (10 ^ N) wh) (fun h2 => CB h2 r m R u im iu Wi t tp mn la it ∧ FM n h h2) (n + 1)) := by
  refine ax_C.go RX7 "lost" [some (.ref 0), some (.int (nI N)), some (.int (nI c)), some (.int x), some (.int y), some (.int z), some (.int wh), none, none, none] rfl rfl pn_X7 (lb rfl) rfl (fun l G cy bs => ?_)
  obtain ⟨a0, hS, hA, hW, hRd, hG, hM, hH⟩ := (id hI : CB h _ _ _ _ _ _ _ _ _ _ _ _)
  obtain ⟨sp, pi, pp, nw, bz, hd, dw, k1, hP, ⟨s1, s2, s3, s4, s5, s6⟩, k4⟩ := (id hS : SR h 1 _ _)
  obtain ⟨⟨fs1, o1⟩, o17, ⟨fs6, o115⟩, hu6, hm12⟩ := CB.o hI
  have hbz := s5.b
  have him := hM.b
  have hsl : sLeft r m = nI (LN r m) := sLeft_eq k4
  have hLN := LN_le k4
  have go : ∀ (h1 : ax_H) (g : Nat → Int32), CB h1 r m R u im iu Wi t tp mn la it → FM n h h1 → h1 136 = some (ax_I 18 g) → (∀ p, p < 3 * N → g p = mvF r p) → ax_T l G cy bs (ax_rm 6 1 2) RX7 "lost" cX7_lost 10 (some .int) (kE (lw (smN r N c x y z (2 ^ N)) (10 ^ N) wh) (fun h2 => CB h2 r m R u im iu Wi t tp mn la it ∧ FM n h h2) (n + 1)) 1 2 56 [some (.ref 0), some (.int (nI N)), some (.int (nI c)), some (.int x), some (.int y), some (.int z), some (.int wh), some (.int (nI (0))), some (.int (nI (10 ^ 0))), some (.int (nI 0))] [] h1 n 0 0 := by
    intro h1 g hI1 hF1 hg hp
    have a01 := hI1.1
    have hp2 := p2 hN
    have hp10 := p10 hN
    have l2 : ∀ (d j : Nat), j + d = 2 ^ N → ax_T l G cy bs (ax_rm 6 1 2) RX7 "lost" cX7_lost 10 (some .int) (kE (lw (smN r N c x y z (2 ^ N)) (10 ^ N) wh) (fun h2 => CB h2 r m R u im iu Wi t tp mn la it ∧ FM n h h2) (n + 1)) 1 2 78 [some (.ref 0), some (.int (nI N)), some (.int (nI c)), some (.int x), some (.int y), some (.int z), some (.int wh), some (.int (nI (smN r N c x y z j))), some (.int (nI (10 ^ N))), some (.int (nI j))] [] h1 n 0 0 := by
      intro d
      induction d with
      | zero =>
        intro j hj
        obtain rfl : j = 2 ^ N := by omega
        have hsm := sm_le (r := r) (x := x) (y := y) (z := z) hc hN (2 ^ N)
        have hl := lw_eq (a := (smN r N c x y z (2 ^ N))) (b := 10 ^ N) (p10p N) (by omega) (by omega) wh
        refine il9 dX7_lost_78 ?_
        refine xt_iconst (1) dX7_lost_80 rfl ?_
        refine il1 dX7_lost_81 ?_
        refine xt_ishl dX7_lost_82 ?_
        refine xt_eqv (nI (2 ^ N)) (shl1 N (by omega)) ?_
        refine xt_icmp_ge 142 dX7_lost_83 rfl (fun _ => ?_) (fun q => absurd (nI_le (by omega) (by omega)) q)
        refine nw_X7_197 dX7_lost_142 ⟨lb rfl, lb rfl⟩ ?_
        refine xt_dup dX7_lost_145 rfl ?_
        refine s_X7_199 dX7_lost_146 (cn_X0_init (hp_s _ _ _)) ⟨lb rfl, lb rfl, lb rfl, lb rfl⟩ ?_
        refine xt_eq (hp_hp _ _ _ _) ?_
        refine as9 dX7_lost_149 (by decide) rfl ?_
        refine al9 dX7_lost_151 ?_
        refine il7 dX7_lost_153 ?_
        refine p_X7_218 dX7_lost_155 (hp_s _ _ _) ?_
        refine xt_eq (hp_hp _ _ _ _) ?_
        refine al9 dX7_lost_158 ?_
        refine il8 dX7_lost_160 ?_
        refine p_X7_221 dX7_lost_162 (hp_s _ _ _) ?_
        refine xt_eq (hp_hp _ _ _ _) ?_
        refine al9 dX7_lost_165 ?_
        refine il6 dX7_lost_167 ?_
        refine s_X7_204 dX7_lost_169 (cn_X0_lowest (hp_s _ _ _) wh hl.1) (hp_s _ _ _) ⟨lb rfl, lb rfl, lb rfl, lb rfl⟩ ?_
        exact xt_iret dX7_lost_172 rfl (lb rfl) (lb rfl) ⟨by rw [hl.2], ⟨hI1.tr (fun j hj => hp_n _ _ (by omega)), FM_tr hF1 (fun j a b => hp_n _ _ (by omega))⟩, rfl⟩
      | succ d ih =>
        intro j hj
        refine il9 dX7_lost_78 ?_
        refine xt_iconst (1) dX7_lost_80 rfl ?_
        refine il1 dX7_lost_81 ?_
        refine xt_ishl dX7_lost_82 ?_
        refine xt_eqv (nI (2 ^ N)) (shl1 N (by omega)) ?_
        refine xt_icmp_ge 142 dX7_lost_83 rfl (fun q => absurd q (nI_ge (by omega) (by omega))) (fun _ => ?_)
        refine al0 dX7_lost_86 ?_
        refine il9 dX7_lost_87 ?_
        refine il1 dX7_lost_89 ?_
        refine xt_iconst (0) dX7_lost_90 rfl ?_
        refine s_X7_211 dX7_lost_91 (cn_X7_endOf hI1 hg (nI j) N 0 hN (by omega) hp) a01 ⟨lb rfl, lb rfl, lb rfl, lb rfl⟩ ?_
        refine il3 dX7_lost_94 ?_
        refine xt_icmp_ne 136 dX7_lost_95 rfl (fun c95 => ?_) (fun c95 => ?_)
        · refine inc9 (nI (j + 1)) dX7_lost_136 (nI_1 _) (by decide) rfl ?_
          refine xt_goto 78 dX7_lost_139 rfl ?_
          rw [← sm_0 (fun q => c95 q.1)]; exact ih (j + 1) (by omega)
        · refine al0 dX7_lost_98 ?_
          refine il9 dX7_lost_99 ?_
          refine il1 dX7_lost_101 ?_
          refine xt_iconst (1) dX7_lost_102 rfl ?_
          refine s_X7_211 dX7_lost_103 (cn_X7_endOf hI1 hg (nI j) N 1 hN (by omega) hp) a01 ⟨lb rfl, lb rfl, lb rfl, lb rfl⟩ ?_
          refine il4 dX7_lost_106 ?_
          refine xt_icmp_ne 136 dX7_lost_108 rfl (fun c108 => ?_) (fun c108 => ?_)
          · refine inc9 (nI (j + 1)) dX7_lost_136 (nI_1 _) (by decide) rfl ?_
            refine xt_goto 78 dX7_lost_139 rfl ?_
            rw [← sm_0 (fun q => c108 q.2.1)]; exact ih (j + 1) (by omega)
          · refine al0 dX7_lost_111 ?_
            refine il9 dX7_lost_112 ?_
            refine il1 dX7_lost_114 ?_
            refine xt_iconst (2) dX7_lost_115 rfl ?_
            refine s_X7_211 dX7_lost_116 (cn_X7_endOf hI1 hg (nI j) N 2 hN (by omega) hp) a01 ⟨lb rfl, lb rfl, lb rfl, lb rfl⟩ ?_
            refine il5 dX7_lost_119 ?_
            refine xt_icmp_ne 136 dX7_lost_121 rfl (fun c121 => ?_) (fun c121 => ?_)
            · refine inc9 (nI (j + 1)) dX7_lost_136 (nI_1 _) (by decide) rfl ?_
              refine xt_goto 78 dX7_lost_139 rfl ?_
              rw [← sm_0 (fun q => c121 q.2.2)]; exact ih (j + 1) (by omega)
            · refine il7 dX7_lost_124 ?_
              refine il9 dX7_lost_126 ?_
              refine il1 dX7_lost_128 ?_
              refine il2 dX7_lost_129 ?_
              refine s_X7_215 dX7_lost_130 (cn_X7_weightOf (nI j) N c hN hc) ⟨lb rfl, lb rfl, lb rfl, lb rfl⟩ ?_
              refine xt_iadd dX7_lost_133 ?_
              refine xt_eqv (nI (smN r N c x y z j + wtN (nI j) c N)) (ne_add (a := smN r N c x y z j) (b := wtN (nI j) c N) rfl rfl) ?_
              refine is7 dX7_lost_134 (by decide) rfl ?_
              refine inc9 (nI (j + 1)) dX7_lost_136 (nI_1 _) (by decide) rfl ?_
              refine xt_goto 78 dX7_lost_139 rfl ?_
              rw [← sm_1 c95 c108 c121]; exact ih (j + 1) (by omega)
    have l1 : ∀ (d k : Nat), k + d = N → ax_T l G cy bs (ax_rm 6 1 2) RX7 "lost" cX7_lost 10 (some .int) (kE (lw (smN r N c x y z (2 ^ N)) (10 ^ N) wh) (fun h2 => CB h2 r m R u im iu Wi t tp mn la it ∧ FM n h h2) (n + 1)) 1 2 56 [some (.ref 0), some (.int (nI N)), some (.int (nI c)), some (.int x), some (.int y), some (.int z), some (.int wh), some (.int (nI (0))), some (.int (nI (10 ^ k))), some (.int (nI k))] [] h1 n 0 0 := by
      intro d
      induction d with
      | zero =>
        intro k hk
        obtain rfl : k = N := by omega
        refine il9 dX7_lost_56 ?_
        refine il1 dX7_lost_58 ?_
        refine xt_icmp_ge 75 dX7_lost_59 rfl (fun _ => ?_) (fun q => absurd (nI_le (by omega) (by omega)) q)
        refine xt_iconst (0) dX7_lost_75 rfl ?_
        refine is9 dX7_lost_76 (by decide) rfl ?_
        exact l2 (2 ^ k) 0 (by omega)
      | succ d ih =>
        intro k hk
        refine il9 dX7_lost_56 ?_
        refine il1 dX7_lost_58 ?_
        refine xt_icmp_ge 75 dX7_lost_59 rfl (fun q => absurd q (nI_ge (by omega) (by omega))) (fun _ => ?_)
        refine il8 dX7_lost_62 ?_
        refine xt_bipush (10) dX7_lost_64 rfl ?_
        refine xt_imul dX7_lost_66 ?_
        refine xt_eqv (nI (10 ^ (k + 1))) (ne_mul (a := 10 ^ k) (b := 10) rfl rfl) ?_
        refine is8 dX7_lost_67 (by decide) rfl ?_
        refine inc9 (nI (k + 1)) dX7_lost_69 (nI_1 _) (by decide) rfl ?_
        refine xt_goto 56 dX7_lost_72 rfl ?_
        exact ih (k + 1) (by omega)
    exact l1 N 0 (by omega)
  refine il1 dX7_lost_0 ?_
  refine xt_if_lt 39 dX7_lost_1 rfl (fun q => absurd q (nI_pos (by omega))) (fun _ => ?_)
  refine il1 dX7_lost_4 ?_
  refine xt_bipush (6) dX7_lost_5 rfl ?_
  refine xt_icmp_gt 39 dX7_lost_7 rfl (fun q => absurd q (nI_nlt (b := N) (a := 6) (by omega) (by decide))) (fun _ => ?_)
  refine il1 dX7_lost_10 ?_
  refine al0 dX7_lost_11 ?_
  refine g_X7_12 dX7_lost_12 a0 ?_
  refine s_X7_137 dX7_lost_15 (cr_X5_remaining hS) k1.1 ⟨lb rfl, lb rfl, lb rfl, lb rfl⟩ ?_
  refine xt_icmp_gt 39 dX7_lost_18 rfl (fun q => absurd q (by rw [hsl]; exact nI_nlt (by omega) (by omega))) (fun _ => ?_)
  refine il2 dX7_lost_21 ?_
  refine xt_if_lt 39 dX7_lost_22 rfl (fun q => absurd q (nI_pos (by omega))) (fun _ => ?_)
  refine il2 dX7_lost_25 ?_
  refine xt_bipush (10) dX7_lost_26 rfl ?_
  refine xt_icmp_gt 39 dX7_lost_28 rfl (fun q => absurd q (nI_nlt (b := c) (a := 10) (by omega) (by decide))) (fun _ => ?_)
  refine il6 dX7_lost_31 ?_
  refine s_X7_188 dX7_lost_33 (cn_X7_isSide _) ⟨lb rfl, lb rfl, lb rfl, lb rfl⟩ ?_
  refine xt_if_ne 42 dX7_lost_36 rfl (fun _ => ?_) (fun q => absurd q (fl1 (sd.mpr hw)))
  refine al0 dX7_lost_42 ?_
  refine il1 dX7_lost_43 ?_
  refine sP_X7_207 dX7_lost_44 (cr_X7_gatherMoves hI N hN hL) a0 ⟨lb rfl, lb rfl, lb rfl, lb rfl⟩ ?_
  rintro h1 ⟨⟨hI1, hF1⟩, g, hg, hp⟩
  refine xt_iconst (0) dX7_lost_47 rfl ?_
  refine is7 dX7_lost_48 (by decide) rfl ?_
  refine xt_iconst (1) dX7_lost_50 rfl ?_
  refine is8 dX7_lost_51 (by decide) rfl ?_
  refine xt_iconst (0) dX7_lost_53 rfl ?_
  refine is9 dX7_lost_54 (by decide) rfl ?_
  exact go h1 g hI1 hF1 hg hp
