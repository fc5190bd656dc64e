theorem kdQ_eq {pi : Nat → Nat} {pp : Nat → Nat → Int32} {r : Nat → Int32} : ∀ m, (∀ k, k < m → ∀ j, j < 9 → pp (pi k) j = tlR r k j) → kdQ pi pp m = kdS r m
  | 0, _ => rfl
  | m + 1, h => by
    show kdQ pi pp m ||| _ = kdS r m ||| _
    rw [kdQ_eq m (fun k hk => h k (by omega)), h m (by omega) 0 (by omega)]
    rfl
theorem rmQ_eq {pi : Nat → Nat} {pp : Nat → Nat → Int32} {r : Nat → Int32} {s0 : Int32} (h0 : s0 = sNow r) : ∀ m, (∀ k, k < m → ∀ j, j < 9 → pp (pi k) j = tlR r k j) → (∀ k, k < m → pcOK r (13 + 4 * k)) → rmQ pi pp s0 m = sLeft r m
  | 0, _, _ => h0
  | m + 1, h, hk => by
    show rmQ pi pp s0 m + _ = sLeft r m + _
    rw [rmQ_eq h0 m (fun k q => h k (by omega)) (fun k q => hk k (by omega)), remQ_congr (h m (by omega)), remQ_tl (hk m (by omega))]
    rfl
theorem remQ_now {q r : Nat → Int32} {d : Nat} (h : NQ q r) (hn : NW r d) : remQ q = sNow r := by
  obtain ⟨h0, h1, h2, h3, h4, -, -, h5, -⟩ := h
  unfold remQ sNow
  have : okP (q 0) (q 1) (q 2) (q 3) := by rw [h0, h1, h2, h3]; exact hn.1
  rw [totQ_eq this, if_pos h5, h0, h1, h2, h3, h4]
  rfl
theorem now0 {nw r : Nat → Int32} {bz : Int32} {m : Nat} (s5 : NB nw bz r) (h4 : RI r m) : (if bz = 0 then 0 else remQ nw) = sNow r := by
  rcases s5 with ⟨rfl, q⟩ | ⟨rfl, q⟩
  · rw [if_pos rfl]; unfold sNow; rw [if_neg (neg_m1 q)]
  · rw [if_neg (by decide)]
    rcases h4.2 with e | ⟨d, e⟩
    · exact absurd q.2.2.2.2.2.2.2.1 (neg_m1 e)
    · exact remQ_now q e
theorem cr_X5_kinds {h : ax_H} {n B m : Nat} {r : Nat → Int32} (hS : SR h B r m) : ax_C yX5_kinds cX5_kinds 3 (some .int) 0 0 0 [.ref B] h n (ki (kdS r m) h n) := by
  obtain ⟨sp, pi, pp, nw, bz, hd, dw, h1, h2, ⟨s1, s2, s3, s4, s5, s6⟩, h4⟩ := hS
  have hm := h4.1.2.1
  rw [← kdQ_eq m s4]
  have := cn_X5_kinds (h := h) (n := n) (B := B) (sp := sp) (pi := pi) (pp := pp) (nw := nw) (bz := bz) (hd := hd) (dw := dw) m hm h2.1
  rwa [su_id h1] at this
theorem cr_X5_remaining {h : ax_H} {n B m : Nat} {r : Nat → Int32} (hS : SR h B r m) : ax_C yX5_remaining cX5_remaining 3 (some .int) 3 0 0 [.ref B] h n (ki (sLeft r m) h n) := by
  obtain ⟨sp, pi, pp, nw, bz, hd, dw, h1, h2, ⟨s1, s2, s3, s4, s5, s6⟩, h4⟩ := hS
  have hm := h4.1.2.1
  rw [← rmQ_eq (now0 s5 h4) m s4 h4.1.2.2]
  have := cn_X5_remaining (h := h) (n := n) (B := B) (sp := sp) (pi := pi) (pp := pp) (nw := nw) (bz := bz) (hd := hd) (dw := dw) m hm h2.1
  rwa [su_id h1] at this
theorem tlR_eq {r r' : Nat → Int32} {k k' : Nat} (h : ∀ j, j < 4 → r' (13 + 4 * k' + j) = r (13 + 4 * k + j)) : tlR r' k' = tlR r k := by
  have h0 := h 0 (by omega)
  have h1 := h 1 (by omega)
  have h2 := h 2 (by omega)
  have h3 := h 3 (by omega)
  simp only [Nat.add_zero] at h0
  unfold tlR
  rw [h0, h1, h2, h3]
theorem pushR_lo {r : Nat → Int32} {m j : Nat} {k x y z : Int32} (hj : j < 13 + 4 * m) (h12 : j ≠ 12) : pushR r m k x y z j = r j := by
  unfold pushR; rw [upd, if_neg h12, lay_lo hj]
theorem pushR_in (r : Nat → Int32) (m : Nat) (k x y z : Int32) : pushR r m k x y z (13 + 4 * m) = k ∧ pushR r m k x y z (13 + 4 * m + 1) = x ∧ pushR r m k x y z (13 + 4 * m + 2) = y ∧ pushR r m k x y z (13 + 4 * m + 3) = z := by
  unfold pushR
  have h := lay_in r (13 + 4 * m) k x y z
  simp only [upd]
  rw [if_neg (by omega), if_neg (by omega), if_neg (by omega), if_neg (by omega)]
  exact h
theorem cr_X5_addLast {h : ax_H} {n B m : Nat} {r : Nat → Int32} (hS : SR h B r m) (hm12 : m < 12) {k a b c : Int32} (hp : okP k a b c) : ax_C yX5_addLast cX5_addLast 5 none 2 0 0 [.ref B, .int k, .int a, .int b, .int c] h n (kP (fun h2 => SR h2 B (pushR r m k a b c) (m + 1) ∧ fr B 16 h h2) n) := by
  obtain ⟨sp, pi, pp, nw, bz, hd, dw, h1, h2, ⟨s1, s2, s3, s4, s5, s6⟩, h4⟩ := hS
  have hm := h4.1.2.1
  refine ((cn_X5_addLast m hm12 h2.1 k a b c).heq (su_id h1).symm).wk ?_
  rintro v h' n' ⟨rfl, rfl, rfl⟩
  refine ⟨rfl, ⟨⟨sp, pi, _, nw, bz, hd, dw, SF_su, h2, ⟨fun j hj => ?_, ?_, ?_, fun i hi j hj => ?_, NB_congr (fun _ _ => rfl) (fun j _ q => pushR_lo (by omega) (by omega)) s5, s6⟩, RI_push h4 hm12 hp⟩, fr_su⟩, rfl⟩
  · rw [pushR_lo (by omega) (by omega)]; exact s1 j hj
  · rw [pushR_lo (by omega) (by omega)]; exact s2
  · rw [pushR_lo (by omega) (by omega)]; exact s3
  · by_cases e : i = m
    · subst e
      obtain ⟨q0, q1, q2, q3⟩ := pushR_in r i k a b c
      unfold tlR
      rw [q0, q1, q2, q3, va_up, if_pos rfl]
    · rw [va_up, if_neg (fun q => e (h2.2 _ _ (by omega) (by omega) q)), s4 i (by omega) j hj]
      rw [tlR_eq (r := r) (r' := pushR r m k a b c) (k := i) (k' := i) (fun j q => pushR_lo (by omega) (by omega))]
theorem jpR_eq (r : Nat → Int32) (m : Nat) : ∀ d, d ≤ 4 * m → ∀ j, jpR r m d j = if 17 + (4 * m - d) ≤ j ∧ j < 17 + 4 * m then r (j - 4) else r j
  | 0, _, j => by rw [if_neg (by omega)]; rfl
  | d + 1, hd, j => by
    rw [jpR_s, upd]
    by_cases e : j = 13 + (4 * m - 1 - d) + 4
    · rw [if_pos e, if_pos (by omega), jpR_eq r m d (by omega), if_neg (by omega)]
      congr 1; omega
    · rw [if_neg e, jpR_eq r m d (by omega)]
      by_cases q : 17 + (4 * m - d) ≤ j ∧ j < 17 + 4 * m
      · rw [if_pos q, if_pos (by omega)]
      · rw [if_neg q, if_neg (by omega)]
theorem jumpR_lo {r : Nat → Int32} {m j : Nat} {k x y z : Int32} (hj : j < 12) : jumpR r m k x y z j = r j := by
  unfold jumpR; rw [upd, if_neg (by omega), lay_lo (by omega), jpR_lo r m (by omega)]
theorem jumpR_in (r : Nat → Int32) (m : Nat) (k x y z : Int32) : jumpR r m k x y z 13 = k ∧ jumpR r m k x y z (13 + 1) = x ∧ jumpR r m k x y z (13 + 2) = y ∧ jumpR r m k x y z (13 + 3) = z := by
  unfold jumpR
  have h := lay_in (jpR r m (4 * m)) 13 k x y z
  simp only [upd]
  rw [if_neg (by omega), if_neg (by omega), if_neg (by omega), if_neg (by omega)]
  exact h
theorem jumpR_hi {r : Nat → Int32} {m i j : Nat} {k x y z : Int32} (hi : i < m) (hj : j < 4) : jumpR r m k x y z (13 + 4 * (i + 1) + j) = r (13 + 4 * i + j) := by
  unfold jumpR; rw [upd, if_neg (by omega), lay_hi (by omega), jpR_eq r m _ (by omega), if_pos (by omega)]
  congr 1; omega
theorem RI_jump {r : Nat → Int32} {m : Nat} {k x y z : Int32} (h : RI r m) (hm : m < 12) (hp : okP k x y z) : RI (jumpR r m k x y z) (m + 1) := by
  obtain ⟨⟨h1, h2, h3⟩, h4⟩ := h
  refine ⟨⟨by unfold jumpR; rw [upd, if_pos rfl], by omega, fun i hi => ?_⟩, RI_now (fun j hj => jumpR_lo hj) h4⟩
  show okP (jumpR r m k x y z (13 + 4 * i)) (jumpR r m k x y z (13 + 4 * i + 1)) (jumpR r m k x y z (13 + 4 * i + 2)) (jumpR r m k x y z (13 + 4 * i + 3))
  rcases i with _ | i
  · obtain ⟨q0, q1, q2, q3⟩ := jumpR_in r m k x y z
    rw [show 13 + 4 * 0 = 13 from rfl, q0, q1, q2, q3]; exact hp
  · have q0 := jumpR_hi (r := r) (m := m) (i := i) (j := 0) (k := k) (x := x) (y := y) (z := z) (by omega) (by omega)
    rw [Nat.add_zero, Nat.add_zero] at q0
    rw [q0, jumpR_hi (j := 1) (by omega) (by omega), jumpR_hi (j := 2) (by omega) (by omega), jumpR_hi (j := 3) (by omega) (by omega)]
    exact h3 i (by omega)
theorem cr_X5_addFirst {h : ax_H} {n B m : Nat} {r : Nat → Int32} (hS : SR h B r m) (hm12 : m < 12) {k a b c : Int32} (hp : okP k a b c) : ax_C yX5_addFirst cX5_addFirst 7 none 2 0 0 [.ref B, .int k, .int a, .int b, .int c] h n (kP (fun h2 => SR h2 B (jumpR r m k a b c) (m + 1) ∧ fr B 16 h h2) n) := by
  obtain ⟨sp, pi, pp, nw, bz, hd, dw, h1, h2, ⟨s1, s2, s3, s4, s5, s6⟩, h4⟩ := hS
  have hm := h4.1.2.1
  refine ((cn_X5_addFirst m hm12 h2.1 k a b c).heq (su_id h1).symm).wk ?_
  rintro v h' n' ⟨rfl, rfl, rfl⟩
  have he : ∀ i, i < 12 → va_up (upP pi m m) 0 (pi m) i = pi (if i = 0 then m else if i ≤ m then i - 1 else i) := by
    intro i hi
    rw [va_up]
    by_cases e : i = 0
    · rw [if_pos e, if_pos e]
    · rw [if_neg e, if_neg e, upP_eq pi m m (Nat.le_refl _)]
      by_cases q : i ≤ m
      · rw [if_pos (by omega), if_pos q]
      · rw [if_neg (by omega), if_neg q]
  refine ⟨rfl, ⟨⟨sp, _, _, nw, bz, hd, dw, SF_su, PW_comp (fun i => if i = 0 then m else if i ≤ m then i - 1 else i) h2 he ?_ ?_, ⟨fun j hj => ?_, ?_, ?_, fun i hi j hj => ?_, NB_congr (fun _ _ => rfl) (fun j _ q => jumpR_lo (by omega)) s5, s6⟩, RI_jump h4 hm12 hp⟩, fr_su⟩, rfl⟩
  · intro i hi; split <;> (try split) <;> omega
  · intro i j hi hj e; split at e <;> (try split at e) <;> (try split at e) <;> (try split at e) <;> omega
  · rw [jumpR_lo (by omega)]; exact s1 j hj
  · rw [jumpR_lo (by omega)]; exact s2
  · rw [jumpR_lo (by omega)]; exact s3
  · rw [he i (by omega)]
    rcases i with _ | i
    · rw [if_pos rfl, va_up, if_pos rfl]
      obtain ⟨q0, q1, q2, q3⟩ := jumpR_in r m k a b c
      unfold tlR
      rw [show 13 + 4 * 0 = 13 from rfl, q0, q1, q2, q3]
    · rw [if_neg (by omega), if_pos (by omega), Nat.add_sub_cancel, va_up, if_neg (fun q => by have := h2.2 _ _ (by omega) (by omega) q; omega), s4 i (by omega) j hj]
      rw [tlR_eq (r := r) (r' := jumpR r m k a b c) (k := i) (k' := i + 1) (fun j q => jumpR_hi (by omega) q)]
theorem rmP_eq (pi : Nat → Nat) {i m : Nat} (hi : i < m) (k : Nat) : rmP pi i m k = pi (if k = m - 1 then i else if i ≤ k ∧ k < m - 1 then k + 1 else k) := by
  unfold rmP
  rw [va_up]
  by_cases e : k = m - 1
  · rw [if_pos e, if_pos e]
  · rw [if_neg e, if_neg e, dnP_eq]
    by_cases q : i ≤ k ∧ k < m - 1
    · rw [if_pos (by omega), if_pos q]
    · rw [if_neg (by omega), if_neg q]
theorem PW_rm {pi : Nat → Nat} {i m : Nat} (hi : i < m) (hm : m ≤ 12) (h : PW pi) : PW (rmP pi i m) := by
  refine PW_comp (fun k => if k = m - 1 then i else if i ≤ k ∧ k < m - 1 then k + 1 else k) h (fun k _ => rmP_eq pi hi k) ?_ ?_
  · intro k hk; split <;> (try split) <;> omega
  · intro j k hj hk e; split at e <;> (try split at e) <;> (try split at e) <;> (try split at e) <;> omega
/-- of the first i that wait, how many are not of a kind -/
def cN (kd : Int32) (r : Nat → Int32) : Nat → Nat
  | 0 => 0
  | i + 1 => cN kd r i + (if r (13 + 4 * i) = kd then 0 else 1)
theorem cN_le (kd : Int32) (r : Nat → Int32) : ∀ i j, i ≤ j → cN kd r i ≤ cN kd r j ∧ cN kd r j ≤ cN kd r i + (j - i)
  | i, 0, h => by obtain rfl : i = 0 := by omega
                  simp
  | i, j + 1, h => by
    by_cases e : i = j + 1
    · subst e; simp
    · have := cN_le kd r i j (by omega)
      show _ ≤ cN kd r j + _ ∧ cN kd r j + _ ≤ _
      split <;> omega
theorem pgS_lay (kd : Int32) (r : Nat → Int32) : ∀ i, (pgS kd r i).2 = cN kd r i ∧ (∀ j, 13 + 4 * i ≤ j → (pgS kd r i).1 j = r j) ∧ ∀ k, k < i → ¬ r (13 + 4 * k) = kd → ∀ j, j < 4 → (pgS kd r i).1 (13 + 4 * cN kd r k + j) = r (13 + 4 * k + j)
  | 0 => ⟨rfl, fun _ _ => rfl, fun k hk => absurd hk (by omega)⟩
  | i + 1 => by
    obtain ⟨h1, h2, h3⟩ := pgS_lay kd r i
    have hc := (cN_le kd r 0 i (by omega)).2
    have e0 : (pgS kd r i).1 (13 + 4 * i) = r (13 + 4 * i) := h2 _ (by omega)
    by_cases e : r (13 + 4 * i) = kd
    · have hp : pgS kd r (i + 1) = pgS kd r i := by
        show (if (pgS kd r i).1 (13 + 4 * i) = kd then _ else _) = _
        rw [if_pos (by rw [e0]; exact e)]
      rw [hp]
      refine ⟨by show _ = cN kd r i + _; rw [if_pos e]; exact h1, fun j hj => h2 j (by omega), fun k hk hn j hj => ?_⟩
      have : k ≠ i := fun q => hn (by rw [q]; exact e)
      exact h3 k (by omega) hn j hj
    · have hp : pgS kd r (i + 1) = (lay (pgS kd r i).1 (13 + 4 * (pgS kd r i).2) ((pgS kd r i).1 (13 + 4 * i)) ((pgS kd r i).1 (13 + 4 * i + 1)) ((pgS kd r i).1 (13 + 4 * i + 2)) ((pgS kd r i).1 (13 + 4 * i + 3)), (pgS kd r i).2 + 1) := by
        show (if (pgS kd r i).1 (13 + 4 * i) = kd then _ else _) = _
        rw [if_neg (by rw [e0]; exact e)]
      rw [hp, h1]
      have hci : cN kd r i ≤ i := by simpa [cN] using hc
      refine ⟨by show _ = cN kd r i + _; rw [if_neg e], fun j hj => ?_, fun k hk hn j hj => ?_⟩
      · show lay _ _ _ _ _ _ j = _
        rw [lay_hi (by omega)]; exact h2 j (by omega)
      · show lay _ _ _ _ _ _ (13 + 4 * cN kd r k + j) = _
        by_cases q : k = i
        · subst q
          obtain ⟨a0, a1, a2, a3⟩ := lay_in (pgS kd r k).1 (13 + 4 * cN kd r k) ((pgS kd r k).1 (13 + 4 * k)) ((pgS kd r k).1 (13 + 4 * k + 1)) ((pgS kd r k).1 (13 + 4 * k + 2)) ((pgS kd r k).1 (13 + 4 * k + 3))
          rcases (show j = 0 ∨ j = 1 ∨ j = 2 ∨ j = 3 by omega) with rfl | rfl | rfl | rfl
          · exact a0.trans (h2 _ (by omega))
          · rw [a1]; exact h2 _ (by omega)
          · rw [a2]; exact h2 _ (by omega)
          · rw [a3]; exact h2 _ (by omega)
        · have hl := (cN_le kd r (k + 1) i (by omega)).1
          have hk1 : cN kd r (k + 1) = cN kd r k + 1 := by show cN kd r k + _ = _; rw [if_neg hn]
          rw [lay_lo (by omega)]
          exact h3 k (by omega) hn j hj
theorem cN_sur (kd : Int32) (r : Nat → Int32) : ∀ m c, c < cN kd r m → ∃ k, k < m ∧ ¬ r (13 + 4 * k) = kd ∧ cN kd r k = c
  | 0, c, h => absurd h (by simp [cN])
  | m + 1, c, h => by
    have h : c < cN kd r m + (if r (13 + 4 * m) = kd then 0 else 1) := h
    by_cases q : c < cN kd r m
    · obtain ⟨k, a, b, d⟩ := cN_sur kd r m c q
      exact ⟨k, by omega, b, d⟩
    · by_cases e : r (13 + 4 * m) = kd
      · rw [if_pos e] at h; omega
      · rw [if_neg e] at h
        exact ⟨m, by omega, e, by omega⟩
theorem purgeR_lo {kd : Int32} {r : Nat → Int32} {m j : Nat} (hj : j < 12) : purgeR kd r m j = r j := by
  unfold purgeR; rw [upd, if_neg (by omega), pgS_12 kd r (by omega)]
theorem purgeR_at {kd : Int32} {r : Nat → Int32} {m k j : Nat} (hk : k < m) (hn : ¬ r (13 + 4 * k) = kd) (hj : j < 4) : purgeR kd r m (13 + 4 * cN kd r k + j) = r (13 + 4 * k + j) := by
  unfold purgeR; rw [upd, if_neg (by omega)]; exact (pgS_lay kd r m).2.2 k hk hn j hj
theorem RI_purge {kd : Int32} {r : Nat → Int32} {m : Nat} (h : RI r m) : RI (purgeR kd r m) (cN kd r m) := by
  obtain ⟨⟨h1, h2, h3⟩, h4⟩ := h
  have hc := (cN_le kd r 0 m (by omega)).2
  have hcm : cN kd r m ≤ m := by simpa [cN] using hc
  refine ⟨⟨by unfold purgeR; rw [upd, if_pos rfl, (pgS_lay kd r m).1], by omega, fun i hi => ?_⟩, RI_now (fun j hj => purgeR_lo hj) h4⟩
  obtain ⟨k, a, b, rfl⟩ := cN_sur kd r m i hi
  have q0 := purgeR_at (j := 0) a b (by omega)
  rw [Nat.add_zero, Nat.add_zero] at q0
  show okP (purgeR kd r m (13 + 4 * cN kd r k)) (purgeR kd r m (13 + 4 * cN kd r k + 1)) (purgeR kd r m (13 + 4 * cN kd r k + 2)) (purgeR kd r m (13 + 4 * cN kd r k + 3))
  rw [q0, purgeR_at (j := 1) a b (by omega), purgeR_at (j := 2) a b (by omega), purgeR_at (j := 3) a b (by omega)]
  exact h3 k a
set_option maxHeartbeats 400000 in
set_option maxRecDepth 100000 in
theorem cn_X5_removeAll {h : ax_H} {n : Nat} {B : Nat} {sp : Nat → Int32} {pi : Nat → Nat} {pp : Nat → Nat → Int32} {nw : Nat → Int32} {bz hd dw : Int32} {r : Nat → Int32} {m : Nat} (kd : Int32) (hm : m ≤ 12) (hP : PW pi) (s4 : ∀ k, k < m → ∀ j, j < 9 → pp (pi k) j = tlR r k j) : ax_C yX5_removeAll cX5_removeAll 4 (some .int) 1 0 0 [.ref B, .int kd] (stU h B sp pi pp (nI m) nw bz hd dw) n (kE (nI (m - cN kd r m)) (fun h2 => ∃ p1 : Nat → Nat, PW p1 ∧ (∀ i, i < m → ¬ r (13 + 4 * i) = kd → p1 (cN kd r i) = pi i) ∧ h2 = (stU h B sp (p1) pp (nI (cN kd r m)) nw bz hd dw)) n) := by
  refine ax_C.go RX5 "removeAll" [some (.ref B), some (.int kd), none, none] rfl rfl pn_X5 (lb rfl) rfl (fun l G cy bs => ?_)
  have lp : ∀ (k : Nat), k ≤ m → ∀ (we c0 : Nat) (v : Int32) (p1 : Nat → Nat), v = nI k - 1 → we + c0 = m → c0 + cN kd r k = k + cN kd r m → PW p1 → (∀ i, i < k → p1 i = pi i) → (∀ i, k ≤ i → i < m → ¬ r (13 + 4 * i) = kd → p1 (k + cN kd r i - cN kd r k) = pi i) → ax_T l G cy bs (ax_rm 1 0 0) RX5 "removeAll" cX5_removeAll 4 (some .int) (kE (nI (m - cN kd r m)) (fun h2 => ∃ p1 : Nat → Nat, PW p1 ∧ (∀ i, i < m → ¬ r (13 + 4 * i) = kd → p1 (cN kd r i) = pi i) ∧ h2 = (stU h B sp (p1) pp (nI (cN kd r m)) nw bz hd dw)) n) 0 0 9 [some (.ref B), some (.int kd), some (.int (nI we)), some (.int v)] [] (stU h B sp (p1) pp (nI c0) nw bz hd dw) n 0 0 := by
    intro k
    induction k with
    | zero =>
      intro hk we c0 v p1 hv h1 h2 h3 h4 h5
      subst hv
      have hz : cN kd r 0 = 0 := rfl
      obtain rfl : c0 = cN kd r m := by omega
      obtain rfl : we = m - cN kd r m := by omega
      refine il3 dX5_removeAll_9 ?_
      refine xt_if_lt 40 dX5_removeAll_10 rfl (fun _ => ?_) (fun q => absurd (by decide) q)
      refine il2 dX5_removeAll_40 ?_
      exact xt_iret dX5_removeAll_41 rfl (lb rfl) (lb rfl) ⟨rfl, ⟨p1, h3, fun i hi hn => by have := h5 i (by omega) hi hn; rwa [hz, Nat.zero_add, Nat.sub_zero] at this, rfl⟩, rfl⟩
    | succ k ih =>
      intro hk we c0 v p1 hv h1 h2 h3 h4 h5
      obtain rfl : v = nI k := by rw [hv]; exact nI_pred k
      have hcs : cN kd r (k + 1) = cN kd r k + (if r (13 + 4 * k) = kd then 0 else 1) := rfl
      have hck := cN_le kd r (k + 1) m (by omega)
      have hp1 := h3.1 k (by omega)
      have hk0 : pp (p1 k) 0 = r (13 + 4 * k) := by rw [h4 k (by omega)]; exact s4 k (by omega) 0 (by omega)
      refine il3 dX5_removeAll_9 ?_
      refine xt_if_lt 40 dX5_removeAll_10 rfl (fun q => absurd q (nI_pos (by omega))) (fun _ => ?_)
      refine al0 dX5_removeAll_13 ?_
      refine g_X5_17 dX5_removeAll_14 su_0 ?_
      refine il3 dX5_removeAll_17 ?_
      refine xt_aald3 (k) su_2 (by omega) rfl (by decide) rfl dX5_removeAll_18 ?_
      refine g_X5_54 dX5_removeAll_19 (su_p (i := p1 (k)) (by omega)) ?_
      refine il1 dX5_removeAll_22 ?_
      refine xt_icmp_ne 34 dX5_removeAll_23 rfl (fun c23 => ?_) (fun c23 => ?_)
      · have hkd : ¬ r (13 + 4 * k) = kd := by rw [← hk0]; exact c23
        refine inc3 _ dX5_removeAll_34 rfl (by decide) rfl ?_
        refine xt_goto 9 dX5_removeAll_37 rfl ?_
        exact ih (by omega) we c0 _ p1 (by rw [inc_m1]) h1 (by rw [hcs, if_neg hkd] at h2; omega) h3 (fun i hi => h4 i (by omega)) (fun i a b c => by
        rw [hcs, if_neg hkd] at h5
        by_cases e : i = k
        · subst e; rw [Nat.add_sub_cancel]; exact h4 i (by omega)
        · have hci := cN_le kd r (k + 1) i (by omega)
          rw [hcs, if_neg hkd] at hci
          rw [← h5 i (by omega) b c]; congr 1; omega)
      · have hkd : r (13 + 4 * k) = kd := by rw [← hk0]; exact c23
        rw [hcs, if_pos hkd] at h2
        refine al0 dX5_removeAll_26 ?_
        refine il3 dX5_removeAll_27 ?_
        refine s_X5_57 dX5_removeAll_28 (cn_X5_removeAt c0 k (by omega) (by omega) h3.1) su_0 ⟨lb rfl, lb rfl, lb rfl, lb rfl⟩ ?_
        refine inc2 (nI (we + 1)) dX5_removeAll_31 (nI_1 _) (by decide) rfl ?_
        refine inc3 _ dX5_removeAll_34 rfl (by decide) rfl ?_
        refine xt_goto 9 dX5_removeAll_37 rfl ?_
        exact ih (by omega) (we + 1) (c0 - 1) _ _ (by rw [inc_m1]) (by omega) (by omega) (PW_rm (by omega) (by omega) h3) (fun i hi => by rw [rmP_eq p1 (by omega), if_neg (by omega), if_neg (by omega)]; exact h4 i (by omega)) (fun i a b c => by
        rw [hcs, if_pos hkd] at h5
        have hik : i ≠ k := fun q => c (by rw [q]; exact hkd)
        have hci := cN_le kd r (k + 1) i (by omega)
        have hcm := cN_le kd r (i + 1) m (by omega)
        have hcI : cN kd r (i + 1) = cN kd r i + 1 := by show cN kd r i + _ = _; rw [if_neg c]
        rw [hcs, if_pos hkd] at hci
        rw [rmP_eq p1 (by omega), if_neg (by omega), if_pos (by omega), ← h5 i (by omega) b c]; congr 1; omega)
  refine xt_iconst (0) dX5_removeAll_0 rfl ?_
  refine is2 dX5_removeAll_1 (by decide) rfl ?_
  refine al0 dX5_removeAll_2 ?_
  refine g_X5_21 dX5_removeAll_3 su_0 ?_
  refine xt_iconst (1) dX5_removeAll_6 rfl ?_
  refine xt_isub dX5_removeAll_7 ?_
  refine is3 dX5_removeAll_8 (by decide) rfl ?_
  exact lp m (Nat.le_refl _) 0 m _ pi rfl (by omega) rfl hP (fun _ _ => rfl) (fun i a b => absurd a (by omega))
theorem cr_X5_removeAll {h : ax_H} {n B m : Nat} {r : Nat → Int32} (hS : SR h B r m) (kd : Int32) : ax_C yX5_removeAll cX5_removeAll 4 (some .int) 1 0 0 [.ref B, .int kd] h n (kE (nI (m - (pgS kd r m).2)) (fun h2 => SR h2 B (purgeR kd r m) (pgS kd r m).2 ∧ fr B 16 h h2) n) := by
  obtain ⟨sp, pi, pp, nw, bz, hd, dw, h1, h2, ⟨s1, s2, s3, s4, s5, s6⟩, h4⟩ := hS
  have hm := h4.1.2.1
  rw [(pgS_lay kd r m).1]
  refine ((cn_X5_removeAll kd hm h2 s4).heq (su_id h1).symm).wk ?_
  rintro v h' n' ⟨rfl, ⟨p1, q1, q2, rfl⟩, rfl⟩
  refine ⟨rfl, ⟨⟨sp, p1, pp, nw, bz, hd, dw, SF_su, q1, ⟨fun j hj => ?_, ?_, ?_, fun i hi j hj => ?_, NB_congr (fun _ _ => rfl) (fun j _ q => purgeR_lo (by omega)) s5, s6⟩, RI_purge h4⟩, fr_su⟩, rfl⟩
  · rw [purgeR_lo (by omega)]; exact s1 j hj
  · rw [purgeR_lo (by omega)]; exact s2
  · rw [purgeR_lo (by omega)]; exact s3
  · obtain ⟨k, a, b, rfl⟩ := cN_sur kd r m i hi
    rw [q2 k a b, s4 k a j hj]
    rw [tlR_eq (r := r) (r' := purgeR kd r m) (k := k) (k' := cN kd r k) (fun j q => purgeR_at a b q)]
/-- as a new one, but for the draw -/
def clrR (r : Nat → Int32) : Nat → Int32 := fun j => if j = 4 then r 4 else if j = 5 then -1 else 0
theorem cr_X5_clear {h : ax_H} {n B m : Nat} {r : Nat → Int32} (hS : SR h B r m) : ax_C yX5_clear cX5_clear 1 none 0 0 0 [.ref B] h n (kP (fun h2 => SR h2 B (clrR r) 0 ∧ fr B 16 h h2) n) := by
  obtain ⟨sp, pi, pp, nw, bz, hd, dw, h1, h2, ⟨s1, s2, s3, s4, s5, s6⟩, h4⟩ := hS
  have hm := h4.1.2.1
  refine ((cn_X5_clear).heq (su_id h1).symm).wk ?_
  rintro v h' n' ⟨rfl, rfl, rfl⟩
  refine ⟨rfl, ⟨⟨_, pi, pp, nw, _, _, dw, SF_su, h2, ⟨fun j hj => ?_, rfl, s3, fun i hi => absurd hi (by omega), Or.inl ⟨rfl, rfl⟩, Or.inl rfl⟩, ⟨rfl, by omega, fun k hk => absurd hk (by omega)⟩, Or.inl rfl⟩, fr_su⟩, rfl⟩
  rw [z3_0 _ hj]; unfold clrR; rw [if_neg (by omega), if_neg (by omega)]
