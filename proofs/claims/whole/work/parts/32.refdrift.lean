def dwS (r : Nat → Int32) : Int32 := (r 4 * 1103515245 + 12345) &&& 2147483647
def drA (r : Nat → Int32) : Nat → Int32 := upd r 4 (dwS r)
abbrev drX (r : Nat → Int32) : Int32 := dwS r / 65536
abbrev rm3 (x d : Int32) : Int32 := x - x / d * d
/-- a turn of a drift -/
def drR (r : Nat → Int32) : Nat → Int32 := if rm3 (drX r) 3 = 0 then (if 12 ≤ r 12 then drA r else pushR (drA r) (mOf r) (rm3 (drX r / 3) 3) (rm3 (drX r / 16) 9 - 4) (rm3 (drX r / 256) 9 - 4) 1) else nx (drA r)
abbrev dS : Type := (Nat → Nat → Int32) × Nat
def drS (s : dS) : dS := (va_up (mdW s.1 s.2) 0 (drR (s.1 0)), mdU s.2)
def drN : Nat → dS → dS
  | 0, s => s
  | k + 1, s => drN k (drS s)
theorem dw_nat (r : Nat → Int32) : ∃ j, j < 2147483648 ∧ dwS r = nI j := by
  have := pk_and (r 4 * 1103515245 + 12345) (m := 2147483647) 31 (by decide)
  exact ⟨_, Nat.mod_lt _ (by decide), this⟩
theorem drX_nat (r : Nat → Int32) : ∃ j, j < 32768 ∧ drX r = nI j := by
  obtain ⟨j, hj, e⟩ := dw_nat r
  refine ⟨j / 65536, by omega, ?_⟩
  unfold drX
  rw [e, show (65536 : Int32) = nI 65536 from rfl, pk_div (by omega) (by omega) (by omega)]
theorem rm3_nat {x d : Nat} (hx : x < 2 ^ 31) (h0 : 0 < d) (hd : d < 2 ^ 31) : rm3 (nI x) (nI d) = nI (x % d) := pk_rem hx h0 hd
theorem dr_ok (r : Nat → Int32) : okP (rm3 (drX r / 3) 3) (rm3 (drX r / 16) 9 - 4) (rm3 (drX r / 256) 9 - 4) 1 := by
  obtain ⟨j, hj, e⟩ := drX_nat r
  rw [e]
  have e1 : nI j / 3 = nI (j / 3) := pk_div (d := 3) (by omega) (by omega) (by omega)
  have e2 : nI j / 16 = nI (j / 16) := pk_div (d := 16) (by omega) (by omega) (by omega)
  have e3 : nI j / 256 = nI (j / 256) := pk_div (d := 256) (by omega) (by omega) (by omega)
  rw [e1, e2, e3]
  have q1 : rm3 (nI (j / 3)) 3 = nI (j / 3 % 3) := rm3_nat (d := 3) (by omega) (by omega) (by omega)
  have q2 : rm3 (nI (j / 16)) 9 = nI (j / 16 % 9) := rm3_nat (d := 9) (by omega) (by omega) (by omega)
  have q3 : rm3 (nI (j / 256)) 9 = nI (j / 256 % 9) := rm3_nat (d := 9) (by omega) (by omega) (by omega)
  rw [q1, q2, q3]
  have t1 : (nI (j / 3 % 3)).toInt = ((j / 3 % 3 : Nat) : Int) := nI_toInt (by omega)
  have t2 : (nI (j / 16 % 9) - 4).toInt = ((j / 16 % 9 : Nat) : Int) - (4 : Nat) := pk_sub_toInt (b := 4) (by omega) (by omega)
  have t3 : (nI (j / 256 % 9) - 4).toInt = ((j / 256 % 9 : Nat) : Int) - (4 : Nat) := pk_sub_toInt (b := 4) (by omega) (by omega)
  unfold okP
  simp only [fb_le, fb_lt, fb_eq, ti_0, ti_1, ti_2, ti_4, ti_10, ti_15, ti_99, ti_m10, ti_m15, t1, t2, t3]
  refine ⟨by omega, ?_⟩
  rw [if_neg (by omega)]
  omega
theorem RI_col {r : Nat → Int32} {m : Nat} {c : Nat} {v : Int32} (hc : c < 5) (h : RI r m) : RI (upd r c v) m := by
  have un : ∀ j, 5 ≤ j → upd r c v j = r j := fun j hj => by rw [upd, if_neg (by omega)]
  obtain ⟨⟨h1, h2, h3⟩, h4⟩ := h
  refine ⟨⟨by rw [un 12 (by omega)]; exact h1, h2, fun k hk => ?_⟩, ?_⟩
  · show okP (upd r c v (13 + 4 * k)) (upd r c v (13 + 4 * k + 1)) (upd r c v (13 + 4 * k + 2)) (upd r c v (13 + 4 * k + 3))
    rw [un _ (by omega), un _ (by omega), un _ (by omega), un _ (by omega)]
    exact h3 k hk
  · rcases h4 with h4 | ⟨d, q1, q2, q3, q4⟩
    · exact Or.inl (by rw [un 5 (by omega)]; exact h4)
    · refine Or.inr ⟨d, ?_, by rw [un 9 (by omega)]; exact q2, ?_, ?_⟩
      · show okP (upd r c v 5) (upd r c v 6) (upd r c v 7) (upd r c v 8)
        rw [un 5 (by omega), un 6 (by omega), un 7 (by omega), un 8 (by omega)]
        exact q1
      · show d < stN (upd r c v 5) (upd r c v 6) (upd r c v 7) (upd r c v 8)
        rw [un 5 (by omega), un 6 (by omega), un 7 (by omega), un 8 (by omega)]
        exact q3
      · rw [un 5 (by omega), un 10 (by omega), un 11 (by omega)]
        exact q4
theorem lay_hi {r : Nat → Int32} {c j : Nat} {k x y z : Int32} (h : c + 4 ≤ j) : lay r c k x y z j = r j := by
  simp only [lay, upd]
  rw [if_neg (by omega), if_neg (by omega), if_neg (by omega), if_neg (by omega)]
theorem lay_in (r : Nat → Int32) (c : Nat) (k x y z : Int32) : lay r c k x y z c = k ∧ lay r c k x y z (c + 1) = x ∧ lay r c k x y z (c + 2) = y ∧ lay r c k x y z (c + 3) = z := by
  refine ⟨?_, ?_, ?_, ?_⟩ <;> simp [lay, upd]
/-- the cells below 12 and the pieces: what the invariant rests on -/
theorem RI_now {r r' : Nat → Int32} (hlo : ∀ j, j < 12 → r' j = r j) (h : r 5 = -1 ∨ ∃ d, NW r d) : r' 5 = -1 ∨ ∃ d, NW r' d := by
  rcases h with h | ⟨d, q1, q2, q3, q4⟩
  · exact Or.inl (by rw [hlo 5 (by omega)]; exact h)
  · refine Or.inr ⟨d, ?_, by rw [hlo 9 (by omega)]; exact q2, ?_, ?_⟩
    · show okP (r' 5) (r' 6) (r' 7) (r' 8)
      rw [hlo 5 (by omega), hlo 6 (by omega), hlo 7 (by omega), hlo 8 (by omega)]
      exact q1
    · show d < stN (r' 5) (r' 6) (r' 7) (r' 8)
      rw [hlo 5 (by omega), hlo 6 (by omega), hlo 7 (by omega), hlo 8 (by omega)]
      exact q3
    · rw [hlo 5 (by omega), hlo 10 (by omega), hlo 11 (by omega)]
      exact q4
theorem RI_push {r : Nat → Int32} {m : Nat} {k x y z : Int32} (h : RI r m) (hm : m < 12) (hp : okP k x y z) : RI (pushR r m k x y z) (m + 1) := by
  obtain ⟨⟨h1, h2, h3⟩, h4⟩ := h
  have lo : ∀ j, j < 12 → pushR r m k x y z j = r j := fun j hj => by unfold pushR; rw [upd, if_neg (by omega), lay_lo (by omega)]
  have u : ∀ j, 13 ≤ j → pushR r m k x y z j = lay r (13 + 4 * m) k x y z j := fun j hj => by unfold pushR; rw [upd, if_neg (by omega)]
  refine ⟨⟨by unfold pushR; rw [upd, if_pos rfl], by omega, fun i hi => ?_⟩, RI_now lo h4⟩
  show okP (pushR r m k x y z (13 + 4 * i)) (pushR r m k x y z (13 + 4 * i + 1)) (pushR r m k x y z (13 + 4 * i + 2)) (pushR r m k x y z (13 + 4 * i + 3))
  rw [u _ (by omega), u _ (by omega), u _ (by omega), u _ (by omega)]
  by_cases him : i = m
  · subst him
    obtain ⟨a1, a2, a3, a4⟩ := lay_in r (13 + 4 * i) k x y z
    rw [a1, a2, a3, a4]
    exact hp
  · rw [lay_lo (by omega), lay_lo (by omega), lay_lo (by omega), lay_lo (by omega)]
    exact h3 i (by omega)
theorem RI_nx {r : Nat → Int32} {m : Nat} (h : RI r m) : ∃ m', RI (nx r) m' := by
  by_cases hf : rFlag r = 0
  · rw [(nx_0 hf).1]; exact ⟨m, h⟩
  · obtain ⟨m2, -, q, -⟩ := RI_step h hf; exact ⟨m2, q⟩
theorem RI_drift {r : Nat → Int32} {m : Nat} (h : RI r m) : ∃ m', RI (drR r) m' := by
  have ha : RI (drA r) m := RI_col (by omega) h
  have hm : mOf r = m := mOf_eq h.1.1 (by have := h.1.2.1; omega)
  unfold drR
  split
  · split
    · exact ⟨m, ha⟩
    · rename_i hc
      rw [hm]
      have h12 : m < 12 := by
        rcases Nat.lt_or_ge m 12 with q | q
        · exact q
        · exact absurd (by rw [h.1.1]; exact nI_le (a := 12) q (by have := h.1.2.1; omega)) hc
      exact ⟨m + 1, RI_push ha h12 (dr_ok r)⟩
  · exact RI_nx ha
set_option maxHeartbeats 400000 in
set_option maxRecDepth 100000 in
theorem cn_X8_drift_b {h : ax_H} {n : Nat} {M : Nat} {un iu td aT nu ab be : Int32} {tp mv rd ms mn la : Nat → Int32} {W : Nat → Nat → Int32} {it tk : Nat → Int64} (x : Int32) (hx : ¬ (1 ≤ x ∧ x ≤ 40)) : ax_C yX8_drift cX8_drift 5 (some .int) 6 0 0 [.ref M, .int x] (mU h M un iu td aT nu ab be (jn W) tp mv rd ms mn la it tk) n (ki ((-1000001)) (mU h M un iu td aT nu ab be (jn W) tp mv rd ms mn la it tk) n) := by
  refine ax_C.go RX8 "drift" [some (.ref M), some (.int x), none, none, none] rfl rfl pn_X8 (lb rfl) rfl (fun l G cy bs => ?_)
  refine il1 dX8_drift_0 ?_
  refine xt_i2l dX8_drift_1 ?_
  refine xt_lconst (1) dX8_drift_2 rfl ?_
  refine k_X8_178 dX8_drift_3 ?_
  refine s_X8_51 dX8_drift_6 (cn_X8_inI _ (1) (40) rfl rfl) ⟨lb rfl, lb rfl, lb rfl, lb rfl⟩ ?_
  refine xt_if_ne 15 dX8_drift_9 rfl (fun q => absurd (fl0 hx) q) (fun _ => ?_)
  refine k_X8_112 dX8_drift_12 ?_
  exact xt_iret dX8_drift_14 rfl (lb rfl) (lb rfl) ⟨rfl, rfl, rfl⟩
set_option maxHeartbeats 400000 in
set_option maxRecDepth 100000 in
theorem cn_X8_drift {h : ax_H} {n : Nat} {M : Nat} {iu td aT nu ab be : Int32} {tp mv rd ms mn la : Nat → Int32} {W : Nat → Nat → Int32} {it tk : Nat → Int64} (u : Nat) (hu : u ≤ 6) (m : Nat) (hRI0 : RI (W 0) m) (N : Nat) (hN : 1 ≤ N ∧ N ≤ 40) : ax_C yX8_drift cX8_drift 5 (some .int) 6 0 0 [.ref M, .int (nI N)] (mU h M (nI u) iu td aT nu ab be (jn W) tp mv rd ms mn la it tk) n (kE (nI (LN ((drN N (W, u)).1 0) (mOf ((drN N (W, u)).1 0)))) (MSt h M (nI (drN N (W, u)).2) (iu) (td) ((drN N (W, u)).1) (tp) (mn) (la) (it)) n) := by
  refine ax_C.go RX8 "drift" [some (.ref M), some (.int (nI N)), none, none, none] rfl rfl pn_X8 (lb rfl) rfl (fun l G cy bs => ?_)
  have lp : ∀ (j k : Nat), k + j = N → ∀ (A B : Option Value) (W1 : Nat → Nat → Int32) (u1 : Nat) (mv1 : Nat → Int32) (m1 : Nat), RI (W1 0) m1 → u1 ≤ 6 → drN j (W1, u1) = (drN N (W, u)) → ax_T l G cy bs (ax_rm 6 0 0) RX8 "drift" cX8_drift 5 (some .int) (kE (nI (LN ((drN N (W, u)).1 0) (mOf ((drN N (W, u)).1 0)))) (MSt h M (nI (drN N (W, u)).2) (iu) (td) ((drN N (W, u)).1) (tp) (mn) (la) (it)) n) 0 0 17 [some (.ref M), some (.int (nI N)), some (.int (nI k)), A, B] [] (mU h M (nI u1) iu td aT nu ab be (jn W1) tp (mv1) rd ms mn la it tk) n 0 0 := by
    intro j
    induction j with
    | zero =>
      intro k hk A B W1 u1 mv1 m1 hRI hu1 hr
      obtain rfl : k = N := by omega
      have hr : (W1, u1) = drN k (W, u) := hr
      refine il2 dX8_drift_17 ?_
      refine il1 dX8_drift_18 ?_
      refine xt_icmp_ge 165 dX8_drift_19 rfl (fun _ => ?_) (fun q => absurd (nI_le (Nat.le_refl _) (by omega)) q)
      refine al0 dX8_drift_165 ?_
      refine xt_iconst (0) dX8_drift_166 rfl ?_
      refine s_X8_116 dX8_drift_167 (by have z := cn_X8_leftOf (h := h) (n := n) (M := M) (un := nI u1) (iu := iu) (td := td) (aT := aT) (nu := nu) (ab := ab) (be := be) (tp := tp) (mv := mv1) (rd := rd) (ms := ms) (mn := mn) (la := la) (it := it) (tk := tk) (W := W1) (r := W1 0) (q := 0) m1 (by omega) hRI.1.1 hRI.1.2.1; rw [up_id] at z; exact z) mU_0 ⟨lb rfl, lb rfl, lb rfl, lb rfl⟩ ?_
      exact xt_iret dX8_drift_170 rfl (lb rfl) (lb rfl) ⟨by rw [← hr, sLeft_eq hRI]; show _ = some (Value.int (nI (LN (W1 0) (mOf (W1 0))))); rw [mOf_eq hRI.1.1 (by have := hRI.1.2.1; omega)], by rw [← hr]; exact MSt_of, rfl⟩
    | succ j ih =>
      intro k hk A B W1 u1 mv1 m1 hRI hu1 hr
      have hA : RI (drA (W1 0)) m1 := RI_col (by omega) hRI
      have h12 : W1 0 12 = nI m1 := hRI.1.1
      have h12l : m1 ≤ 12 := hRI.1.2.1
      have hmo : mOf (W1 0) = m1 := mOf_eq h12 (by omega)
      obtain ⟨m2, hRI2⟩ := RI_drift hRI
      have hmd : mdU u1 ≤ 6 := by unfold mdU; split <;> omega
      refine il2 dX8_drift_17 ?_
      refine il1 dX8_drift_18 ?_
      refine xt_icmp_ge 165 dX8_drift_19 rfl (fun q => absurd q (nI_ge (by omega) (by omega))) (fun _ => ?_)
      refine al0 dX8_drift_22 ?_
      refine s_X8_165 dX8_drift_23 (cn_X8_minds u1 hu1) mU_0 ⟨lb rfl, lb rfl, lb rfl, lb rfl⟩ ?_
      refine xt_heq (congrArg (fun z => (mU h M (nI (mdU u1)) iu td aT nu ab be (jn z) tp (mv1) rd ms mn la it tk)) (mdW_row W1 u1)) ?_
      refine al0 dX8_drift_26 ?_
      refine g_X8_7 dX8_drift_27 mU_0 ?_
      refine xt_iconst (4) dX8_drift_30 rfl ?_
      refine al0 dX8_drift_31 ?_
      refine g_X8_7 dX8_drift_32 mU_0 ?_
      refine xt_iconst (4) dX8_drift_35 rfl ?_
      refine xt_iald (4) mU_1 (by omega) rfl (by decide) dX8_drift_36 ?_
      refine xt_top (congrArg Value.int (jnr (c := 4) (by omega) (by omega))) ?_
      refine k_X8_180 dX8_drift_37 ?_
      refine xt_imul dX8_drift_39 ?_
      refine xt_sipush (12345) dX8_drift_40 rfl ?_
      refine xt_iadd dX8_drift_43 ?_
      refine k_X8_181 dX8_drift_44 ?_
      refine xt_iand dX8_drift_46 ?_
      refine xt_iast (4) mU_1 (by omega) rfl (by decide) dX8_drift_47 ?_
      refine xt_heq (mU_pr (c := 4) (by omega) (by omega)) ?_
      refine al0 dX8_drift_48 ?_
      refine g_X8_7 dX8_drift_49 mU_0 ?_
      refine xt_iconst (4) dX8_drift_52 rfl ?_
      refine xt_iald (4) mU_1 (by omega) rfl (by decide) dX8_drift_53 ?_
      refine xt_top (congrArg Value.int (jnr (c := 4) (by omega) (by omega))) ?_
      refine xt_eqv (dwS (W1 0)) (by simp [upd, dwS]) ?_
      refine k_X8_182 dX8_drift_54 ?_
      refine xt_idiv dX8_drift_56 (by decide) ?_
      refine is3 dX8_drift_57 (by decide) rfl ?_
      refine il3 dX8_drift_58 ?_
      refine xt_iconst (3) dX8_drift_59 rfl ?_
      refine xt_irem dX8_drift_60 (by decide) ?_
      refine xt_if_eq 95 dX8_drift_61 rfl (fun c61 => ?_) (fun c61 => ?_)
      · refine al0 dX8_drift_95 ?_
        refine g_X8_7 dX8_drift_96 mU_0 ?_
        refine xt_bipush (12) dX8_drift_99 rfl ?_
        refine xt_iald (12) mU_1 (by omega) rfl (by decide) dX8_drift_101 ?_
        refine xt_top (congrArg Value.int (jnr (c := 12) (by omega) (by omega))) ?_
        refine xt_eqv (nI (m1)) (by simp [upd]; exact h12) ?_
        refine xt_bipush (12) dX8_drift_102 rfl ?_
        refine xt_icmp_ge 159 dX8_drift_104 rfl (fun c104 => ?_) (fun c104 => ?_)
        · refine inc2 (nI (k + 1)) dX8_drift_159 (nI_1 _) (by decide) rfl ?_
          refine xt_goto 17 dX8_drift_162 rfl ?_
          have e1 : drR (W1 0) = drA (W1 0) := by unfold drR; rw [if_pos c61, if_pos (by rw [h12]; exact c104)]
          refine xt_heq (h2 := (mU h M (nI (mdU u1)) iu td aT nu ab be (jn (va_up (mdW W1 u1) 0 (drR (W1 0)))) tp (mv1) rd ms mn la it tk)) (by rw [e1]; rfl) ?_
          exact ih (k + 1) (by omega) _ _ (va_up (mdW W1 u1) 0 (drR (W1 0))) (mdU u1) _ m2 (by simpa [va_up] using hRI2) hmd hr
        · have hm12 : m1 < 12 := by
            rcases Nat.lt_or_ge m1 12 with q | q
            · exact q
            · exact absurd (nI_le (a := 12) q (by omega)) c104
          refine al0 dX8_drift_107 ?_
          refine xt_bipush (13) dX8_drift_108 rfl ?_
          refine xt_iconst (4) dX8_drift_110 rfl ?_
          refine al0 dX8_drift_111 ?_
          refine g_X8_7 dX8_drift_112 mU_0 ?_
          refine xt_bipush (12) dX8_drift_115 rfl ?_
          refine xt_iald (12) mU_1 (by omega) rfl (by decide) dX8_drift_117 ?_
          refine xt_top (congrArg Value.int (jnr (c := 12) (by omega) (by omega))) ?_
          refine xt_eqv (nI (m1)) (by simp [upd]; exact h12) ?_
          refine xt_imul dX8_drift_118 ?_
          refine xt_iadd dX8_drift_119 ?_
          refine xt_eqv (nI (61 * 0 + (13 + 4 * m1))) ((ne_add (a := 13) (b := (4) * (m1)) rfl (ne_mul (a := 4) (b := m1) rfl rfl)).trans (congrArg nI (by omega))) ?_
          refine il3 dX8_drift_120 ?_
          refine xt_iconst (3) dX8_drift_121 rfl ?_
          refine xt_idiv dX8_drift_122 (by decide) ?_
          refine xt_iconst (3) dX8_drift_123 rfl ?_
          refine xt_irem dX8_drift_124 (by decide) ?_
          refine il3 dX8_drift_125 ?_
          refine xt_bipush (16) dX8_drift_126 rfl ?_
          refine xt_idiv dX8_drift_128 (by decide) ?_
          refine xt_bipush (9) dX8_drift_129 rfl ?_
          refine xt_irem dX8_drift_131 (by decide) ?_
          refine xt_iconst (4) dX8_drift_132 rfl ?_
          refine xt_isub dX8_drift_133 ?_
          refine il3 dX8_drift_134 ?_
          refine xt_sipush (256) dX8_drift_135 rfl ?_
          refine xt_idiv dX8_drift_138 (by decide) ?_
          refine xt_bipush (9) dX8_drift_139 rfl ?_
          refine xt_irem dX8_drift_141 (by decide) ?_
          refine xt_iconst (4) dX8_drift_142 rfl ?_
          refine xt_isub dX8_drift_143 ?_
          refine xt_iconst (1) dX8_drift_144 rfl ?_
          refine s_X8_168 dX8_drift_145 (cn_X8_lays ((13 + 4 * m1)) (by omega) (by omega) _ _ _ _) mU_0 ⟨lb rfl, lb rfl, lb rfl, lb rfl⟩ ?_
          refine al0 dX8_drift_148 ?_
          refine g_X8_7 dX8_drift_149 mU_0 ?_
          refine xt_bipush (12) dX8_drift_152 rfl ?_
          refine xt_dup2 dX8_drift_154 rfl rfl ?_
          refine xt_iald (12) mU_1 (by omega) rfl (by decide) dX8_drift_155 ?_
          refine xt_top (congrArg Value.int (jnr (c := 12) (by omega) (by omega))) ?_
          refine xt_eqv (nI (m1)) (by rw [lay_lo (by omega)]; simp [upd]; exact h12) ?_
          refine xt_iconst (1) dX8_drift_156 rfl ?_
          refine xt_iadd dX8_drift_157 ?_
          refine xt_eqv (nI (m1 + 1)) (nI_1 _) ?_
          refine xt_iast (12) mU_1 (by omega) rfl (by decide) dX8_drift_158 ?_
          refine xt_heq (mU_pr (c := 12) (by omega) (by omega)) ?_
          refine inc2 (nI (k + 1)) dX8_drift_159 (nI_1 _) (by decide) rfl ?_
          refine xt_goto 17 dX8_drift_162 rfl ?_
          have e1 : drR (W1 0) = pushR (drA (W1 0)) m1 (rm3 (drX (W1 0) / 3) 3) (rm3 (drX (W1 0) / 16) 9 - 4) (rm3 (drX (W1 0) / 256) 9 - 4) 1 := by unfold drR; rw [if_pos c61, if_neg (by rw [h12]; exact c104), hmo]
          refine xt_heq (h2 := (mU h M (nI (mdU u1)) iu td aT nu ab be (jn (va_up (mdW W1 u1) 0 (drR (W1 0)))) tp (mv1) rd ms mn la it tk)) (by rw [e1]; rfl) ?_
          exact ih (k + 1) (by omega) _ _ (va_up (mdW W1 u1) 0 (drR (W1 0))) (mdU u1) _ m2 (by simpa [va_up] using hRI2) hmd hr
      · refine al0 dX8_drift_64 ?_
        refine xt_iconst (0) dX8_drift_65 rfl ?_
        refine s_X8_175 dX8_drift_66 (cn_X8_stepsI (q := 0) (r := drA (W1 0)) (by omega) hA) mU_0 ⟨lb rfl, lb rfl, lb rfl, lb rfl⟩ ?_
        refine is4 dX8_drift_69 (by decide) rfl ?_
        refine al0 dX8_drift_71 ?_
        refine g_X8_20 dX8_drift_72 mU_0 ?_
        refine xt_iconst (0) dX8_drift_75 rfl ?_
        refine il4 dX8_drift_76 ?_
        apply xj_if_eq 90 dX8_drift_78 rfl
        · intro k78
          refine ⟨fun c78 => ?_, fun c78 => ?_⟩
          · refine xt_iconst (0) dX8_drift_90 rfl ?_
            exact xt_it1 k78 c78
          · refine al0 dX8_drift_81 ?_
            refine g_X8_20 dX8_drift_82 mU_0 ?_
            refine xt_iconst (0) dX8_drift_85 rfl ?_
            refine xt_iald (0) mU_3 (by omega) rfl (by decide) dX8_drift_86 ?_
            refine xt_goto 91 dX8_drift_87 rfl ?_
            exact xt_it2 k78 c78
        · skip
          refine xt_iast (0) mU_3 (by omega) rfl (by decide) dX8_drift_91 ?_
          refine xt_heq mU_p3 ?_
          refine xt_goto 159 dX8_drift_92 rfl ?_
          refine inc2 (nI (k + 1)) dX8_drift_159 (nI_1 _) (by decide) rfl ?_
          refine xt_goto 17 dX8_drift_162 rfl ?_
          have e1 : drR (W1 0) = nx (drA (W1 0)) := by unfold drR; rw [if_neg c61]
          rw [← e1]
          exact ih (k + 1) (by omega) _ _ (va_up (mdW W1 u1) 0 (drR (W1 0))) (mdU u1) _ m2 (by simpa [va_up] using hRI2) hmd hr
  refine il1 dX8_drift_0 ?_
  refine xt_i2l dX8_drift_1 ?_
  refine xt_lconst (1) dX8_drift_2 rfl ?_
  refine k_X8_178 dX8_drift_3 ?_
  refine s_X8_51 dX8_drift_6 (cn_X8_inI _ (1) (40) rfl rfl) ⟨lb rfl, lb rfl, lb rfl, lb rfl⟩ ?_
  refine xt_if_ne 15 dX8_drift_9 rfl (fun _ => ?_) (fun q => absurd q (fl1 ⟨nI_le (a := 1) (by omega) (by omega), nI_le (b := 40) (by omega) (by decide)⟩))
  refine xt_iconst (0) dX8_drift_15 rfl ?_
  refine is2 dX8_drift_16 (by decide) rfl ?_
  exact lp N 0 (by omega) _ _ _ _ _ m hRI0 hu rfl
