theorem PR_place {h : ax_H} {n : Nat} (hV : INV h) (hn : 269 ≤ n) (x : Int32) : ∃ (ans : Int32) (P : ax_H → Prop) (n2 : Nat), ax_C yX7_place cX7_place 2 (some .int) 1 0 0 [.ref 0, .int x] h n (kE ans P n2) ∧ n ≤ n2 ∧ ∀ h2, P h2 → (∃ fs, h2 259 = some (.inr (8, fs))) ∧ ax_C yX8_place cX8_place 2 (some .int) 2 0 0 [.ref 259, .int x] h2 n2 (kE ans INV n2) := by
  obtain ⟨m, u, t, im, iu, W, tp, mn, la, it, hI, aT, nu, ab, be, mv, rd, ms, tk, hM⟩ := hV
  have hRI := hI.2.1.ri
  have hm0 : W 0 12 = nI m := hRI.1.1
  have hm12 : m ≤ 12 := hRI.1.2.1
  have hu6 : u ≤ 6 := (CB.o hI).2.2.2.1
  by_cases hx : 0 ≤ x ∧ x ≤ 2
  · obtain ⟨a, ha, rfl⟩ := rg (n := 2) rfl hx
    exact ⟨_, _, n, cr_X7_place hI a (by omega), by omega, fun hq_ hP => pr_i hM hP.2 hn (cn_X8_place a (by omega)) (inv_mk hP.1)⟩
  · exact ⟨_, _, n, cr_X7_place_b hI x hx, by omega, fun hq_ hP => pr_i hM hP.2 hn (cn_X8_place_b x hx) (inv_mk hP.1)⟩

theorem m1_int : ∀ m, m < 13 → (nI m - 1).toInt = (m : Int) - 1 := by decide +kernel
theorem neg1 {x : Int32} (h : -1 ≤ x) (h0 : ¬ 0 ≤ x) : x = -1 := by
  rw [fb_le] at h; rw [fb_le, ti_0] at h0
  apply Int32.toInt_inj.mp
  have : (-1 : Int32).toInt = -1 := by decide
  omega
theorem PR_piece {h : ax_H} {n : Nat} (hV : INV h) (hn : 269 ≤ n) (x b : Int32) : ∃ (ans : Int32) (P : ax_H → Prop) (n2 : Nat), ax_C yX7_piece cX7_piece 3 (some .int) 4 0 0 [.ref 0, .int x, .int b] h n (kE ans P n2) ∧ n ≤ n2 ∧ ∀ h2, P h2 → (∃ fs, h2 259 = some (.inr (8, fs))) ∧ ax_C yX8_piece cX8_piece 4 (some .int) 5 0 0 [.ref 259, .int x, .int b] h2 n2 (kE ans INV n2) := by
  obtain ⟨m, u, t, im, iu, W, tp, mn, la, it, hI, aT, nu, ab, be, mv, rd, ms, tk, hM⟩ := hV
  have hRI := hI.2.1.ri
  have hm0 : W 0 12 = nI m := hRI.1.1
  have hm12 : m ≤ 12 := hRI.1.2.1
  have hu6 : u ≤ 6 := (CB.o hI).2.2.2.1
  by_cases hx : -1 ≤ x ∧ x ≤ nI m - 1
  · by_cases hb : 0 ≤ b ∧ b ≤ 4
    · obtain ⟨b, hb4, rfl⟩ := rg (n := 4) rfl hb
      by_cases h0 : 0 ≤ x
      · obtain ⟨j, hj, rfl⟩ := nI_of (nlt.mpr h0)
        have hjm : j < m := by
          have h1 := hx.2
          rw [fb_le, m1_int m (by omega), nI_toInt hj] at h1
          omega
        rcases (show b < 4 ∨ b = 4 by omega) with z | rfl
        · exact ⟨_, _, n, cr_X7_piece_r hI j b hjm z, by omega, fun hq_ hP => pr_i hM hP.2 hn (cn_X8_piece_r m hm0 hm12 j b hjm z) (inv_mk hP.1)⟩
        · exact ⟨_, _, n, cr_X7_piece_t hI j hjm, by omega, fun hq_ hP => pr_i hM hP.2 hn (cn_X8_piece_t m hm0 hm12 j hjm) (inv_mk hP.1)⟩
      · obtain rfl := neg1 hx.1 h0
        by_cases hn0 : 0 ≤ W 0 5
        · rcases (show b < 4 ∨ b = 4 by omega) with z | rfl
          · exact ⟨_, _, n, cr_X7_piece_w hI b z hn0, by omega, fun hq_ hP => pr_i hM hP.2 hn (cn_X8_piece_w m hm0 hm12 b z hn0) (inv_mk hP.1)⟩
          · exact ⟨_, _, n, cr_X7_piece_s hI hn0, by omega, fun hq_ hP => pr_i hM hP.2 hn (cn_X8_piece_s m hm0 hm12 hn0) (inv_mk hP.1)⟩
        · exact ⟨_, _, n, cr_X7_piece_n hI b hb4 hn0, by omega, fun hq_ hP => pr_i hM hP.2 hn (cn_X8_piece_n m hm0 hm12 b hb4 hn0) (inv_mk hP.1)⟩
    · exact ⟨_, _, n, cr_X7_piece_b2 hI x b hx hb, by omega, fun hq_ hP => pr_i hM hP.2 hn (cn_X8_piece_b2 m hm0 hm12 x b hx hb) (inv_mk hP.1)⟩
  · exact ⟨_, _, n, cr_X7_piece_b1 hI x b hx, by omega, fun hq_ hP => pr_i hM hP.2 hn (cn_X8_piece_b1 m hm0 hm12 x b hx) (inv_mk hP.1)⟩

theorem PR_type {h : ax_H} {n : Nat} (hV : INV h) (hn : 269 ≤ n) (x : Int32) : ∃ (ans : Int32) (P : ax_H → Prop) (n2 : Nat), ax_C yX7_type cX7_type 2 (some .int) 1 0 0 [.ref 0, .int x] h n (kE ans P n2) ∧ n ≤ n2 ∧ ∀ h2, P h2 → (∃ fs, h2 259 = some (.inr (8, fs))) ∧ ax_C yX8_type cX8_type 2 (some .int) 1 0 0 [.ref 259, .int x] h2 n2 (kE ans INV n2) := by
  obtain ⟨m, u, t, im, iu, W, tp, mn, la, it, hI, aT, nu, ab, be, mv, rd, ms, tk, hM⟩ := hV
  have hRI := hI.2.1.ri
  have hm0 : W 0 12 = nI m := hRI.1.1
  have hm12 : m ≤ 12 := hRI.1.2.1
  have hu6 : u ≤ 6 := (CB.o hI).2.2.2.1
  have ht : t ≤ 140 := hI.2.2.2.2.1.2.1
  by_cases hx : 32 ≤ x ∧ x ≤ 126
  · rcases (show t < 140 ∨ t = 140 by omega) with z | rfl
    · exact ⟨_, _, n, cr_X7_type hI x hx z, by omega, fun hq_ hP => pr_i hM hP.2 hn (cn_X8_type x hx t z) (inv_mk hP.1)⟩
    · exact ⟨_, _, n, cr_X7_type_f hI x hx rfl, by omega, fun hq_ hP => pr_i hM hP.2 hn (cn_X8_type_f x hx) (inv_mk hP.1)⟩
  · exact ⟨_, _, n, cr_X7_type_b hI x hx, by omega, fun hq_ hP => pr_i hM hP.2 hn (cn_X8_type_b x hx) (inv_mk hP.1)⟩

theorem PR_plan {h : ax_H} {n : Nat} (hV : INV h) (hn : 269 ≤ n)  : ∃ (ans : Int32) (P : ax_H → Prop) (n2 : Nat), ax_C yX7_plan cX7_plan 5 (some .int) 10 0 0 [.ref 0] h n (kE ans P n2) ∧ n ≤ n2 ∧ ∀ h2, P h2 → (∃ fs, h2 259 = some (.inr (8, fs))) ∧ ax_C yX8_plan cX8_plan 5 (some .int) 5 0 0 [.ref 259] h2 n2 (kE ans INV n2) := by
  obtain ⟨m, u, t, im, iu, W, tp, mn, la, it, hI, aT, nu, ab, be, mv, rd, ms, tk, hM⟩ := hV
  have hRI := hI.2.1.ri
  have hm0 : W 0 12 = nI m := hRI.1.1
  have hm12 : m ≤ 12 := hRI.1.2.1
  have hu6 : u ≤ 6 := (CB.o hI).2.2.2.1
  have ht : t ≤ 140 := hI.2.2.2.2.1.2.1
  have ho : TPo tp t := hI.2.2.2.2.1.2.2.2.2.2.2
  rcases e : rPl tp t with ⟨_ | N, a, q⟩
  · exact ⟨_, _, n, cr_X7_plan_f hI a q e, by omega, fun hq_ hP => pr_e hM hP.2 hn (cn_X8_plan_f t ht ho a q e) (fun h3 hS => inv_st hP.1 hS)⟩
  · exact ⟨_, _, n, cr_X7_plan hI N a q e, by omega, fun hq_ hP => pr_e hM hP.2 hn (cn_X8_plan t ht ho N a q e) (fun h3 hS => inv_st (W := va_up W 0 _) (cg_0 hP.1) hS)⟩

theorem PR_count {h : ax_H} {n : Nat} (hV : INV h) (hn : 269 ≤ n) (x : Int32) : ∃ (ans : Int32) (P : ax_H → Prop) (n2 : Nat), ax_C yX7_count cX7_count 2 (some .int) 4 0 0 [.ref 0, .int x] h n (kE ans P n2) ∧ n ≤ n2 ∧ ∀ h2, P h2 → (∃ fs, h2 259 = some (.inr (8, fs))) ∧ ax_C yX8_count cX8_count 2 (some .int) 6 0 0 [.ref 259, .int x] h2 n2 (kE ans INV n2) := by
  obtain ⟨m, u, t, im, iu, W, tp, mn, la, it, hI, aT, nu, ab, be, mv, rd, ms, tk, hM⟩ := hV
  have hRI := hI.2.1.ri
  have hm0 : W 0 12 = nI m := hRI.1.1
  have hm12 : m ≤ 12 := hRI.1.2.1
  have hu6 : u ≤ 6 := (CB.o hI).2.2.2.1
  by_cases hx : 0 ≤ x ∧ x ≤ 5
  · obtain ⟨a, ha, rfl⟩ := rg (n := 5) rfl hx
    rcases (show a = 0 ∨ a = 1 ∨ a = 2 ∨ a = 3 ∨ a = 4 ∨ a = 5 by omega) with rfl | rfl | rfl | rfl | rfl | rfl
    · exact ⟨_, _, n, cr_X7_count0 hI, by omega, fun hq_ hP => pr_i hM hP.2 hn (cn_X8_count0) (inv_mk hP.1)⟩
    · exact ⟨_, _, n, cr_X7_count1 hI, by omega, fun hq_ hP => pr_i hM hP.2 hn (cn_X8_count1) (inv_mk hP.1)⟩
    · exact ⟨_, _, n, cr_X7_count2 hI, by omega, fun hq_ hP => pr_i hM hP.2 hn (cn_X8_count2) (inv_mk hP.1)⟩
    · exact ⟨_, _, n, cr_X7_count3 hI, by omega, fun hq_ hP => pr_i hM hP.2 hn (cn_X8_count3 m hm0 hm12) (inv_mk hP.1)⟩
    · exact ⟨_, _, n, cr_X7_count4 hI, by omega, fun hq_ hP => pr_i hM hP.2 hn (cn_X8_count4 m hm0 hm12) (inv_mk hP.1)⟩
    · exact ⟨_, _, n, cr_X7_count5 hI, by omega, fun hq_ hP => pr_i hM hP.2 hn (cn_X8_count5) (inv_mk hP.1)⟩
  · have hx2 : x.toInt < 0 ∨ 5 < x.toInt := by
      rw [fb_le, fb_le, ti_0] at hx
      have : (5 : Int32).toInt = 5 := by decide
      omega
    exact ⟨_, _, n, cr_X7_count_b hI x hx2, by omega, fun hq_ hP => pr_i hM hP.2 hn (cn_X8_count_b x hx2) (inv_mk hP.1)⟩

theorem PR_push {h : ax_H} {n : Nat} (hV : INV h) (hn : 269 ≤ n) (k a b c : Int32) : ∃ (ans : Int32) (P : ax_H → Prop) (n2 : Nat), ax_C yX7_push cX7_push 6 (some .int) 3 0 0 [.ref 0, .int k, .int a, .int b, .int c] h n (kE ans P n2) ∧ n ≤ n2 ∧ ∀ h2, P h2 → (∃ fs, h2 259 = some (.inr (8, fs))) ∧ ax_C yX8_push cX8_push 5 (some .int) 2 0 0 [.ref 259, .int k, .int a, .int b, .int c] h2 n2 (kE ans INV n2) := by
  obtain ⟨m, u, t, im, iu, W, tp, mn, la, it, hI, aT, nu, ab, be, mv, rd, ms, tk, hM⟩ := hV
  have hRI := hI.2.1.ri
  have hm0 : W 0 12 = nI m := hRI.1.1
  have hm12 : m ≤ 12 := hRI.1.2.1
  have hu6 : u ≤ 6 := (CB.o hI).2.2.2.1
  by_cases hx : okP k a b c
  · rcases (show m < 12 ∨ m = 12 by omega) with z | z
    · exact ⟨_, _, n, cr_X7_push hI k a b c hx z, by omega, fun hq_ hP => pr_i hM hP.2 hn (cn_X8_push u hu6 m hm0 z k a b c hx) (inv_mk (W := va_up (mdW W u) 0 _) (cg_md hu6 hP.1))⟩
    · exact ⟨_, _, n, cr_X7_push_f hI k a b c hx z, by omega, fun hq_ hP => pr_i hM hP.2 hn (cn_X8_push_f k a b c hx (z ▸ hm0)) (inv_mk hP.1)⟩
  · exact ⟨_, _, n, cr_X7_push_b hI k a b c hx, by omega, fun hq_ hP => pr_i hM hP.2 hn (cn_X8_push_b k a b c hx) (inv_mk hP.1)⟩

theorem PR_jump {h : ax_H} {n : Nat} (hV : INV h) (hn : 269 ≤ n) (k a b c : Int32) : ∃ (ans : Int32) (P : ax_H → Prop) (n2 : Nat), ax_C yX7_jump cX7_jump 6 (some .int) 3 0 0 [.ref 0, .int k, .int a, .int b, .int c] h n (kE ans P n2) ∧ n ≤ n2 ∧ ∀ h2, P h2 → (∃ fs, h2 259 = some (.inr (8, fs))) ∧ ax_C yX8_jump cX8_jump 6 (some .int) 2 0 0 [.ref 259, .int k, .int a, .int b, .int c] h2 n2 (kE ans INV n2) := by
  obtain ⟨m, u, t, im, iu, W, tp, mn, la, it, hI, aT, nu, ab, be, mv, rd, ms, tk, hM⟩ := hV
  have hRI := hI.2.1.ri
  have hm0 : W 0 12 = nI m := hRI.1.1
  have hm12 : m ≤ 12 := hRI.1.2.1
  have hu6 : u ≤ 6 := (CB.o hI).2.2.2.1
  by_cases hx : okP k a b c
  · rcases (show m < 12 ∨ m = 12 by omega) with z | z
    · exact ⟨_, _, n, cr_X7_jump hI k a b c hx z, by omega, fun hq_ hP => pr_i hM hP.2 hn (cn_X8_jump u hu6 m hm0 z k a b c hx) (inv_mk (W := va_up (mdW W u) 0 _) (cg_md hu6 hP.1))⟩
    · exact ⟨_, _, n, cr_X7_jump_f hI k a b c hx z, by omega, fun hq_ hP => pr_i hM hP.2 hn (cn_X8_jump_f k a b c hx (z ▸ hm0)) (inv_mk hP.1)⟩
  · exact ⟨_, _, n, cr_X7_jump_b hI k a b c hx, by omega, fun hq_ hP => pr_i hM hP.2 hn (cn_X8_jump_b k a b c hx) (inv_mk hP.1)⟩

theorem PR_purge {h : ax_H} {n : Nat} (hV : INV h) (hn : 269 ≤ n) (x : Int32) : ∃ (ans : Int32) (P : ax_H → Prop) (n2 : Nat), ax_C yX7_purge cX7_purge 2 (some .int) 3 0 0 [.ref 0, .int x] h n (kE ans P n2) ∧ n ≤ n2 ∧ ∀ h2, P h2 → (∃ fs, h2 259 = some (.inr (8, fs))) ∧ ax_C yX8_purge cX8_purge 5 (some .int) 2 0 0 [.ref 259, .int x] h2 n2 (kE ans INV n2) := by
  obtain ⟨m, u, t, im, iu, W, tp, mn, la, it, hI, aT, nu, ab, be, mv, rd, ms, tk, hM⟩ := hV
  have hRI := hI.2.1.ri
  have hm0 : W 0 12 = nI m := hRI.1.1
  have hm12 : m ≤ 12 := hRI.1.2.1
  have hu6 : u ≤ 6 := (CB.o hI).2.2.2.1
  by_cases hx : 0 ≤ x ∧ x ≤ 4
  · by_cases hk : (kdS (W 0) m >>> (x &&& 31)) &&& 1 = 0
    · exact ⟨_, _, n, cr_X7_purge_n hI x hx hk, by omega, fun hq_ hP => pr_i hM hP.2 hn (cn_X8_purge_n m hm0 hm12 x hx hk) (inv_mk hP.1)⟩
    · exact ⟨_, _, n, cr_X7_purge hI x hx hk, by omega, fun hq_ hP => pr_i hM hP.2 hn (cn_X8_purge u hu6 m hm0 hm12 x hx hk) (inv_mk (W := va_up (mdW W u) 0 _) (cg_md hu6 hP.1))⟩
  · exact ⟨_, _, n, cr_X7_purge_b hI x hx, by omega, fun hq_ hP => pr_i hM hP.2 hn (cn_X8_purge_b x hx) (inv_mk hP.1)⟩

theorem PR_stop {h : ax_H} {n : Nat} (hV : INV h) (hn : 269 ≤ n)  : ∃ (ans : Int32) (P : ax_H → Prop) (n2 : Nat), ax_C yX7_stop cX7_stop 1 (some .int) 3 0 0 [.ref 0] h n (kE ans P n2) ∧ n ≤ n2 ∧ ∀ h2, P h2 → (∃ fs, h2 259 = some (.inr (8, fs))) ∧ ax_C yX8_stop cX8_stop 2 (some .int) 5 0 0 [.ref 259] h2 n2 (kE ans INV n2) := by
  obtain ⟨m, u, t, im, iu, W, tp, mn, la, it, hI, aT, nu, ab, be, mv, rd, ms, tk, hM⟩ := hV
  have hRI := hI.2.1.ri
  have hm0 : W 0 12 = nI m := hRI.1.1
  have hm12 : m ≤ 12 := hRI.1.2.1
  have hu6 : u ≤ 6 := (CB.o hI).2.2.2.1
  by_cases hx : 0 ≤ W 0 5
  · exact ⟨_, _, n, cr_X7_stop hI hx, by omega, fun hq_ hP => pr_i hM hP.2 hn (cn_X8_stop u hu6 hx) (inv_mk (W := va_up (mdW W u) 0 _) (cg_md hu6 hP.1))⟩
  · exact ⟨_, _, n, cr_X7_stop_n hI hx, by omega, fun hq_ hP => pr_i hM hP.2 hn (cn_X8_stop_n hx) (inv_mk hP.1)⟩

theorem PR_hold {h : ax_H} {n : Nat} (hV : INV h) (hn : 269 ≤ n)  : ∃ (ans : Int32) (P : ax_H → Prop) (n2 : Nat), ax_C yX7_hold cX7_hold 1 (some .int) 3 0 0 [.ref 0] h n (kE ans P n2) ∧ n ≤ n2 ∧ ∀ h2, P h2 → (∃ fs, h2 259 = some (.inr (8, fs))) ∧ ax_C yX8_hold cX8_hold 1 (some .int) 2 0 0 [.ref 259] h2 n2 (kE ans INV n2) := by
  obtain ⟨m, u, t, im, iu, W, tp, mn, la, it, hI, aT, nu, ab, be, mv, rd, ms, tk, hM⟩ := hV
  have hRI := hI.2.1.ri
  have hm0 : W 0 12 = nI m := hRI.1.1
  have hm12 : m ≤ 12 := hRI.1.2.1
  have hu6 : u ≤ 6 := (CB.o hI).2.2.2.1
  exact ⟨_, _, n, cr_X7_hold hI, by omega, fun hq_ hP => pr_i hM hP.2 hn (cn_X8_hold u hu6) (inv_mk (W := va_up (mdW W u) 0 _) (cg_md hu6 hP.1))⟩

theorem PR_step {h : ax_H} {n : Nat} (hV : INV h) (hn : 269 ≤ n) (x : Int32) : ∃ (ans : Int32) (P : ax_H → Prop) (n2 : Nat), ax_C yX7_step cX7_step 2 (some .int) 6 0 0 [.ref 0, .int x] h n (kE ans P n2) ∧ n ≤ n2 ∧ ∀ h2, P h2 → (∃ fs, h2 259 = some (.inr (8, fs))) ∧ ax_C yX8_step cX8_step 3 (some .int) 6 0 0 [.ref 259, .int x] h2 n2 (kE ans INV n2) := by
  obtain ⟨m, u, t, im, iu, W, tp, mn, la, it, hI, aT, nu, ab, be, mv, rd, ms, tk, hM⟩ := hV
  have hRI := hI.2.1.ri
  have hm0 : W 0 12 = nI m := hRI.1.1
  have hm12 : m ≤ 12 := hRI.1.2.1
  have hu6 : u ≤ 6 := (CB.o hI).2.2.2.1
  by_cases hx : 1 ≤ x ∧ x ≤ 200
  · by_cases hh : W 0 3 = 1
    · exact ⟨_, _, n, cr_X7_step_n hI x hx hh, by omega, fun hq_ hP => pr_i hM hP.2 hn (cn_X8_step_n x hx hh) (inv_mk hP.1)⟩
    · obtain ⟨N, h1, h200, rfl⟩ := rg1 (n := 200) rfl hx
      exact ⟨_, _, n, cr_X7_step hI N ⟨h1, h200⟩ hh, by omega, fun h2 hP => by
        obtain ⟨m2, hC, hF⟩ := hP
        exact pr_e hM hF hn (cn_X8_step u hu6 m hRI N ⟨h1, h200⟩ hh) (fun h3 hS => inv_st (W := va_up (mdW W u) 0 _) (cg_md hu6 hC) hS)⟩
  · exact ⟨_, _, n, cr_X7_step_b hI x hx, by omega, fun hq_ hP => pr_i hM hP.2 hn (cn_X8_step_b x hx) (inv_mk hP.1)⟩

theorem PR_drift {h : ax_H} {n : Nat} (hV : INV h) (hn : 269 ≤ n) (x : Int32) : ∃ (ans : Int32) (P : ax_H → Prop) (n2 : Nat), ax_C yX7_drift cX7_drift 3 (some .int) 7 0 0 [.ref 0, .int x] h n (kE ans P n2) ∧ n ≤ n2 ∧ ∀ h2, P h2 → (∃ fs, h2 259 = some (.inr (8, fs))) ∧ ax_C yX8_drift cX8_drift 5 (some .int) 6 0 0 [.ref 259, .int x] h2 n2 (kE ans INV n2) := by
  obtain ⟨m, u, t, im, iu, W, tp, mn, la, it, hI, aT, nu, ab, be, mv, rd, ms, tk, hM⟩ := hV
  have hRI := hI.2.1.ri
  have hm0 : W 0 12 = nI m := hRI.1.1
  have hm12 : m ≤ 12 := hRI.1.2.1
  have hu6 : u ≤ 6 := (CB.o hI).2.2.2.1
  by_cases hx : 1 ≤ x ∧ x ≤ 40
  · obtain ⟨N, h1, h40, rfl⟩ := rg1 (n := 40) rfl hx
    exact ⟨_, _, n, cr_X7_drift hI N ⟨h1, h40⟩, by omega, fun h2 hP => by
      obtain ⟨m2, hC, hF⟩ := hP
      exact pr_e hM hF hn (cn_X8_drift u hu6 m hRI N ⟨h1, h40⟩) (fun h3 hS => inv_st (W := (drN N (W, u)).1) (hC.cg rfl (fun _ _ => rfl) (fun i _ => drN_hi N (W, u) hu6 _ (by omega))) hS)⟩
  · exact ⟨_, _, n, cr_X7_drift_b hI x hx, by omega, fun hq_ hP => pr_i hM hP.2 hn (cn_X8_drift_b x hx) (inv_mk hP.1)⟩

theorem PR_undo {h : ax_H} {n : Nat} (hV : INV h) (hn : 269 ≤ n)  : ∃ (ans : Int32) (P : ax_H → Prop) (n2 : Nat), ax_C yX7_undo cX7_undo 1 (some .int) 3 0 0 [.ref 0] h n (kE ans P n2) ∧ n ≤ n2 ∧ ∀ h2, P h2 → (∃ fs, h2 259 = some (.inr (8, fs))) ∧ ax_C yX8_undo cX8_undo 1 (some .int) 1 0 0 [.ref 259] h2 n2 (kE ans INV n2) := by
  obtain ⟨m, u, t, im, iu, W, tp, mn, la, it, hI, aT, nu, ab, be, mv, rd, ms, tk, hM⟩ := hV
  have hRI := hI.2.1.ri
  have hm0 : W 0 12 = nI m := hRI.1.1
  have hm12 : m ≤ 12 := hRI.1.2.1
  have hu6 : u ≤ 6 := (CB.o hI).2.2.2.1
  rcases u with _ | u
  · exact ⟨_, _, n, cr_X7_undo_n hI, by omega, fun hq_ hP => pr_i hM hP.2 hn (cn_X8_undo_n) (inv_mk hP.1)⟩
  · exact ⟨_, _, n, cr_X7_undo hI, by omega, fun h2 hP => by
      obtain ⟨m2, hC, hF⟩ := hP
      exact pr_i hM hF hn (cn_X8_undo u (by omega)) (inv_mk (W := va_up W 0 _) (cg_0 hC))⟩

theorem PR_seed {h : ax_H} {n : Nat} (hV : INV h) (hn : 269 ≤ n) (x : Int32) : ∃ (ans : Int32) (P : ax_H → Prop) (n2 : Nat), ax_C yX7_seed cX7_seed 3 (some .int) 0 0 0 [.ref 0, .int x] h n (kE ans P n2) ∧ n ≤ n2 ∧ ∀ h2, P h2 → (∃ fs, h2 259 = some (.inr (8, fs))) ∧ ax_C yX8_seed cX8_seed 3 (some .int) 0 0 0 [.ref 259, .int x] h2 n2 (kE ans INV n2) := by
  obtain ⟨m, u, t, im, iu, W, tp, mn, la, it, hI, aT, nu, ab, be, mv, rd, ms, tk, hM⟩ := hV
  have hRI := hI.2.1.ri
  have hm0 : W 0 12 = nI m := hRI.1.1
  have hm12 : m ≤ 12 := hRI.1.2.1
  have hu6 : u ≤ 6 := (CB.o hI).2.2.2.1
  by_cases hx : 0 ≤ x
  · exact ⟨_, _, n, cr_X7_seed hI x hx, by omega, fun hq_ hP => pr_i hM hP.2 hn (cn_X8_seed x hx) (inv_mk (W := va_up W 0 _) (cg_0 hP.1))⟩
  · exact ⟨_, _, n, cr_X7_seed_b hI x hx, by omega, fun hq_ hP => pr_i hM hP.2 hn (cn_X8_seed_b x hx) (inv_mk hP.1)⟩

theorem PR_where {h : ax_H} {n : Nat} (hV : INV h) (hn : 269 ≤ n) (x y : Int32) : ∃ (ans : Int32) (P : ax_H → Prop) (n2 : Nat), ax_C yX7_where cX7_where 5 (some .int) 5 0 0 [.ref 0, .int x, .int y] h n (kE ans P n2) ∧ n ≤ n2 ∧ ∀ h2, P h2 → (∃ fs, h2 259 = some (.inr (8, fs))) ∧ ax_C yX8_where cX8_where 4 (some .int) 6 0 0 [.ref 259, .int x, .int y] h2 n2 (kE ans INV n2) := by
  obtain ⟨m, u, t, im, iu, W, tp, mn, la, it, hI, aT, nu, ab, be, mv, rd, ms, tk, hM⟩ := hV
  have hRI := hI.2.1.ri
  have hm0 : W 0 12 = nI m := hRI.1.1
  have hm12 : m ≤ 12 := hRI.1.2.1
  have hu6 : u ≤ 6 := (CB.o hI).2.2.2.1
  by_cases hx : x < 0
  · exact ⟨_, _, n, cr_X7_where_b1 hI x y hx, by omega, fun hq_ hP => pr_i hM hP.2 hn (cn_X8_where_b1 x y hx) (inv_mk hP.1)⟩
  · by_cases hy : 0 ≤ y ∧ y ≤ 2
    · obtain ⟨N, hN, rfl⟩ := nI_of hx
      obtain ⟨a, ha, rfl⟩ := rg (n := 2) rfl hy
      exact ⟨_, _, n, cr_X7_where hI N a hN (by omega), by omega, fun hq_ hP => pr_e hM hP.2 hn (cn_X8_where m hRI N a hN (by omega)) (fun h3 hS => inv_st hP.1 hS)⟩
    · exact ⟨_, _, n, cr_X7_where_b2 hI x y hx hy, by omega, fun hq_ hP => pr_i hM hP.2 hn (cn_X8_where_b2 x y hx hy) (inv_mk hP.1)⟩

theorem PR_pulses {h : ax_H} {n : Nat} (hV : INV h) (hn : 269 ≤ n) (x y : Int32) : ∃ (ans : Int32) (P : ax_H → Prop) (n2 : Nat), ax_C yX7_pulses cX7_pulses 7 (some .int) 5 0 0 [.ref 0, .int x, .int y] h n (kE ans P n2) ∧ n ≤ n2 ∧ ∀ h2, P h2 → (∃ fs, h2 259 = some (.inr (8, fs))) ∧ ax_C yX8_pulses cX8_pulses 6 (some .int) 6 0 0 [.ref 259, .int x, .int y] h2 n2 (kE ans INV n2) := by
  obtain ⟨m, u, t, im, iu, W, tp, mn, la, it, hI, aT, nu, ab, be, mv, rd, ms, tk, hM⟩ := hV
  have hRI := hI.2.1.ri
  have hm0 : W 0 12 = nI m := hRI.1.1
  have hm12 : m ≤ 12 := hRI.1.2.1
  have hu6 : u ≤ 6 := (CB.o hI).2.2.2.1
  by_cases hx : 0 ≤ x ∧ x ≤ 2
  · by_cases hy : 0 ≤ y ∧ y ≤ 1
    · obtain ⟨a, ha, rfl⟩ := rg (n := 2) rfl hx
      exact ⟨_, _, n, cr_X7_pulses hI a (by omega) y hy, by omega, fun hq_ hP => pr_e hM hP.2 hn (cn_X8_pulses m hRI a (by omega) y hy) (fun h3 hS => inv_st hP.1 hS)⟩
    · exact ⟨_, _, n, cr_X7_pulses_b2 hI x y hx hy, by omega, fun hq_ hP => pr_i hM hP.2 hn (cn_X8_pulses_b2 x y hx hy) (inv_mk hP.1)⟩
  · exact ⟨_, _, n, cr_X7_pulses_b1 hI x y hx, by omega, fun hq_ hP => pr_i hM hP.2 hn (cn_X8_pulses_b1 x y hx) (inv_mk hP.1)⟩

theorem PR_reach {h : ax_H} {n : Nat} (hV : INV h) (hn : 269 ≤ n) (x y : Int32) : ∃ (ans : Int32) (P : ax_H → Prop) (n2 : Nat), ax_C yX7_reach cX7_reach 6 (some .int) 5 0 0 [.ref 0, .int x, .int y] h n (kE ans P n2) ∧ n ≤ n2 ∧ ∀ h2, P h2 → (∃ fs, h2 259 = some (.inr (8, fs))) ∧ ax_C yX8_reach cX8_reach 5 (some .int) 6 0 0 [.ref 259, .int x, .int y] h2 n2 (kE ans INV n2) := by
  obtain ⟨m, u, t, im, iu, W, tp, mn, la, it, hI, aT, nu, ab, be, mv, rd, ms, tk, hM⟩ := hV
  have hRI := hI.2.1.ri
  have hm0 : W 0 12 = nI m := hRI.1.1
  have hm12 : m ≤ 12 := hRI.1.2.1
  have hu6 : u ≤ 6 := (CB.o hI).2.2.2.1
  by_cases hx : 0 ≤ x ∧ x ≤ 2
  · by_cases hy : 0 ≤ y ∧ y ≤ 1
    · obtain ⟨a, ha, rfl⟩ := rg (n := 2) rfl hx
      exact ⟨_, _, n, cr_X7_reach hI a (by omega) y hy, by omega, fun hq_ hP => pr_e hM hP.2 hn (cn_X8_reach m hRI a (by omega) y hy) (fun h3 hS => inv_st hP.1 hS)⟩
    · exact ⟨_, _, n, cr_X7_reach_b2 hI x y hx hy, by omega, fun hq_ hP => pr_i hM hP.2 hn (cn_X8_reach_b2 x y hx hy) (inv_mk hP.1)⟩
  · exact ⟨_, _, n, cr_X7_reach_b1 hI x y hx, by omega, fun hq_ hP => pr_i hM hP.2 hn (cn_X8_reach_b1 x y hx) (inv_mk hP.1)⟩

theorem PR_next {h : ax_H} {n : Nat} (hV : INV h) (hn : 269 ≤ n) (x y : Int32) : ∃ (ans : Int32) (P : ax_H → Prop) (n2 : Nat), ax_C yX7_next cX7_next 4 (some .int) 5 0 0 [.ref 0, .int x, .int y] h n (kE ans P n2) ∧ n ≤ n2 ∧ ∀ h2, P h2 → (∃ fs, h2 259 = some (.inr (8, fs))) ∧ ax_C yX8_next cX8_next 4 (some .int) 6 0 0 [.ref 259, .int x, .int y] h2 n2 (kE ans INV n2) := by
  obtain ⟨m, u, t, im, iu, W, tp, mn, la, it, hI, aT, nu, ab, be, mv, rd, ms, tk, hM⟩ := hV
  have hRI := hI.2.1.ri
  have hm0 : W 0 12 = nI m := hRI.1.1
  have hm12 : m ≤ 12 := hRI.1.2.1
  have hu6 : u ≤ 6 := (CB.o hI).2.2.2.1
  by_cases hx : 0 ≤ x ∧ x ≤ 2
  · by_cases hy : 0 ≤ y
    · obtain ⟨a, ha, rfl⟩ := rg (n := 2) rfl hx
      exact ⟨_, _, n, cr_X7_next hI a (by omega) y hy, by omega, fun hq_ hP => pr_e hM hP.2 hn (cn_X8_next m hRI a (by omega) y hy) (fun h3 hS => inv_st hP.1 hS)⟩
    · exact ⟨_, _, n, cr_X7_next_b2 hI x y hx hy, by omega, fun hq_ hP => pr_i hM hP.2 hn (cn_X8_next_b2 x y hx hy) (inv_mk hP.1)⟩
  · exact ⟨_, _, n, cr_X7_next_b1 hI x y hx, by omega, fun hq_ hP => pr_i hM hP.2 hn (cn_X8_next_b1 x y hx) (inv_mk hP.1)⟩

theorem PR_meets {h : ax_H} {n : Nat} (hV : INV h) (hn : 269 ≤ n) (x y z : Int32) : ∃ (ans : Int32) (P : ax_H → Prop) (n2 : Nat), ax_C yX7_meets cX7_meets 5 (some .int) 5 0 0 [.ref 0, .int x, .int y, .int z] h n (kE ans P n2) ∧ n ≤ n2 ∧ ∀ h2, P h2 → (∃ fs, h2 259 = some (.inr (8, fs))) ∧ ax_C yX8_meets cX8_meets 6 (some .int) 6 0 0 [.ref 259, .int x, .int y, .int z] h2 n2 (kE ans INV n2) := by
  obtain ⟨m, u, t, im, iu, W, tp, mn, la, it, hI, aT, nu, ab, be, mv, rd, ms, tk, hM⟩ := hV
  have hRI := hI.2.1.ri
  have hm0 : W 0 12 = nI m := hRI.1.1
  have hm12 : m ≤ 12 := hRI.1.2.1
  have hu6 : u ≤ 6 := (CB.o hI).2.2.2.1
  exact ⟨_, _, n, cr_X7_meets hI x y z, by omega, fun hq_ hP => pr_e hM hP.2 hn (cn_X8_meets m hRI x y z) (fun h3 hS => inv_st hP.1 hS)⟩

theorem off_rr (S : Nat → Nat → Prop) (x : Int32) : ∃ rr, ∀ a b, MX S a b → lw a b x = rr := by
  by_cases hq : ∃ a b, MX S a b
  · obtain ⟨a, b, hm⟩ := hq
    exact ⟨lw a b x, fun c d hm2 => MX_uni hm2 hm x⟩
  · exact ⟨0, fun a b hm => absurd ⟨a, b, hm⟩ hq⟩
theorem PR_off {h : ax_H} {n : Nat} (hV : INV h) (hn : 269 ≤ n) (x : Int32) : ∃ (ans : Int32) (P : ax_H → Prop) (n2 : Nat), ax_C yX7_off cX7_off 4 (some .int) 3 1 2 [.ref 0, .int x] h n (kE ans P n2) ∧ n ≤ n2 ∧ ∀ h2, P h2 → (∃ fs, h2 259 = some (.inr (8, fs))) ∧ ax_C yX8_off cX8_off 3 (some .int) 3 0 0 [.ref 259, .int x] h2 n2 (kE ans INV n2) := by
  obtain ⟨m, u, t, im, iu, W, tp, mn, la, it, hI, aT, nu, ab, be, mv, rd, ms, tk, hM⟩ := hV
  have hRI := hI.2.1.ri
  have hm0 : W 0 12 = nI m := hRI.1.1
  have hm12 : m ≤ 12 := hRI.1.2.1
  have hu6 : u ≤ 6 := (CB.o hI).2.2.2.1
  by_cases hx : 0 ≤ x ∧ x ≤ 1
  · obtain ⟨rr, hrr⟩ := off_rr (SB (W 0) m) x
    exact ⟨_, _, (n + 1), cr_X7_off hI (by omega) x rr hx hrr, by omega, fun hq_ hP => pr_e hM hP.2 hn (cr_X8_off m hRI x rr hx hrr) (fun h3 hS => inv_st hP.1 hS)⟩
  · exact ⟨_, _, n, cr_X7_off_b hI x hx, by omega, fun hq_ hP => pr_i hM hP.2 hn (cn_X8_off_b x hx) (inv_mk hP.1)⟩

theorem PR_lost {h : ax_H} {n : Nat} (hV : INV h) (hn : 269 ≤ n) (a c x y z wh : Int32) : ∃ (ans : Int32) (P : ax_H → Prop) (n2 : Nat), ax_C yX7_lost cX7_lost 10 (some .int) 6 1 2 [.ref 0, .int a, .int c, .int x, .int y, .int z, .int wh] h n (kE ans P n2) ∧ n ≤ n2 ∧ ∀ h2, P h2 → (∃ fs, h2 259 = some (.inr (8, fs))) ∧ ax_C yX8_lost cX8_lost 19 (some .int) 6 0 0 [.ref 259, .int a, .int c, .int x, .int y, .int z, .int wh] h2 n2 (kE ans INV n2) := by
  obtain ⟨m, u, t, im, iu, W, tp, mn, la, it, hI, aT, nu, ab, be, mv, rd, ms, tk, hM⟩ := hV
  have hRI := hI.2.1.ri
  have hm0 : W 0 12 = nI m := hRI.1.1
  have hm12 : m ≤ 12 := hRI.1.2.1
  have hu6 : u ≤ 6 := (CB.o hI).2.2.2.1
  by_cases hx : (0 ≤ a ∧ a ≤ 6) ∧ a ≤ sLeft (W 0) m ∧ (0 ≤ c ∧ c ≤ 10) ∧ (0 ≤ wh ∧ wh ≤ 1)
  · obtain ⟨h1, h2, h3, h4⟩ := hx
    obtain ⟨N, hN, rfl⟩ := rg (n := 6) rfl h1
    obtain ⟨C, hC, rfl⟩ := rg (n := 10) rfl h3
    have hL := LN_le hRI
    have hNL : N ≤ LN (W 0) m := by
      rw [sLeft_eq hRI] at h2
      exact (nI_leI (by omega) (by omega)).mp h2
    exact ⟨_, _, (n + 1), cr_X7_lost hI (by omega) N C hN hNL hC x y z wh h4, by omega, fun hq_ hP => pr_e hM hP.2 hn (cn_X8_lost m hRI N C hN hNL hC x y z wh h4) (fun h3 hS => inv_st hP.1 hS)⟩
  · exact ⟨_, _, n, cr_X7_lost_b hI a c x y z wh hx, by omega, fun hq_ hP => pr_i hM hP.2 hn (cn_X8_lost_b m hRI a c x y z wh hx) (inv_mk hP.1)⟩

theorem PR_image {h : ax_H} {n : Nat} (hV : INV h) (hn : 269 ≤ n)  : ∃ (ans : Int32) (P : ax_H → Prop) (n2 : Nat), ax_C yX7_image cX7_image 1 (some .int) 3 0 0 [.ref 0] h n (kE ans P n2) ∧ n ≤ n2 ∧ ∀ h2, P h2 → (∃ fs, h2 259 = some (.inr (8, fs))) ∧ ax_C yX8_image cX8_image 2 (some .int) 1 0 0 [.ref 259] h2 n2 (kE ans INV n2) := by
  obtain ⟨m, u, t, im, iu, W, tp, mn, la, it, hI, aT, nu, ab, be, mv, rd, ms, tk, hM⟩ := hV
  have hRI := hI.2.1.ri
  have hm0 : W 0 12 = nI m := hRI.1.1
  have hm12 : m ≤ 12 := hRI.1.2.1
  have hu6 : u ≤ 6 := (CB.o hI).2.2.2.1
  refine ⟨_, _, n, cr_X7_image hI, by omega, fun hq_ hP => pr_i hM hP.2 hn cn_X8_image (inv_mk (W := imW (va_up W 8 (W 0))) (hP.1.cg ?_ (fun i hi => ?_) (fun i hi => ?_)))⟩
  · unfold imW; rw [if_neg (by omega), va_up_ne _ _ (by decide)]
  · unfold imW; rw [if_neg (by omega), va_up_ne _ _ (by omega)]
  · unfold imW imR2
    by_cases h0 : i = 0
    · subst h0; rw [if_neg (by omega), if_pos rfl, va_up_self]
    · rw [if_pos (by omega), if_neg h0, va_up_ne _ _ (by omega), show 2 + (8 + i - 9) = 2 + (i - 1) by omega]

theorem PR_restore {h : ax_H} {n : Nat} (hV : INV h) (hn : 269 ≤ n)  : ∃ (ans : Int32) (P : ax_H → Prop) (n2 : Nat), ax_C yX7_restore cX7_restore 1 (some .int) 3 0 0 [.ref 0] h n (kE ans P n2) ∧ n ≤ n2 ∧ ∀ h2, P h2 → (∃ fs, h2 259 = some (.inr (8, fs))) ∧ ax_C yX8_restore cX8_restore 2 (some .int) 1 0 0 [.ref 259] h2 n2 (kE ans INV n2) := by
  obtain ⟨m, u, t, im, iu, W, tp, mn, la, it, hI, aT, nu, ab, be, mv, rd, ms, tk, hM⟩ := hV
  have hRI := hI.2.1.ri
  have hm0 : W 0 12 = nI m := hRI.1.1
  have hm12 : m ≤ 12 := hRI.1.2.1
  have hu6 : u ≤ 6 := (CB.o hI).2.2.2.1
  obtain ⟨R', ui, p1, -, p3⟩ := hI.2.2.2.2.2.2.1
  have hui : ui ≤ 6 := by obtain ⟨_, _, _, q, -⟩ := p1; exact q
  rcases p3 with ⟨rfl, rfl⟩ | ⟨rfl, rfl, -⟩
  · exact ⟨_, _, n, cr_X7_restore_n hI rfl, by omega, fun hq_ hP => pr_i hM hP.2 hn (cn_X8_restore_n (by decide)) (inv_mk hP.1)⟩
  · refine ⟨_, _, n, cr_X7_restore hI (by omega), by omega, fun h2 hP => ?_⟩
    obtain ⟨m2, hC, hF⟩ := hP
    refine pr_i hM hF hn (cn_X8_restore (nI_pos' (by omega))) (inv_mk (W := rsW (va_up W 0 (W 8))) (hC.cg ?_ (fun i hi => ?_) (fun i hi => ?_)))
    · unfold rsW; rw [if_neg (by omega), va_up_self]
    · unfold rsW; rw [if_pos (by omega), va_up_ne _ _ (by omega), show 9 + (2 + i - 2) = 8 + (1 + i) by omega]
    · unfold rsW; rw [if_neg (by omega), va_up_ne _ _ (by omega)]

theorem two_n (N : Nat) : (2 : Int32) * nI N = nI (2 * N) := pk_mul 2 N
theorem PR_came {h : ax_H} {n : Nat} (hV : INV h) (hn : 269 ≤ n) (x lane i y : Int32) : ∃ (ans : Int32) (P : ax_H → Prop) (n2 : Nat), ax_C yX7_came cX7_came 9 (some .int) 6 0 0 [.ref 0, .int x, .int lane, .int i, .int y] h n (kE ans P n2) ∧ n ≤ n2 ∧ ∀ h2, P h2 → (∃ fs, h2 259 = some (.inr (8, fs))) ∧ ax_C yX8_came cX8_came 8 (some .int) 7 0 0 [.ref 259, .int x, .int lane, .int i, .int y] h2 n2 (kE ans INV n2) := by
  obtain ⟨m, u, t, im, iu, W, tp, mn, la, it, hI, aT, nu, ab, be, mv, rd, ms, tk, hM⟩ := hV
  have hRI := hI.2.1.ri
  have hm0 : W 0 12 = nI m := hRI.1.1
  have hm12 : m ≤ 12 := hRI.1.2.1
  have hu6 : u ≤ 6 := (CB.o hI).2.2.2.1
  by_cases hx : 0 ≤ x ∧ x ≤ 3
  · by_cases hl : 0 ≤ lane ∧ lane ≤ 3
    · by_cases hy : 1 ≤ y ∧ y ≤ 6
      · obtain ⟨s, hs, rfl⟩ := rg (n := 3) rfl hx
        by_cases hg : agV mn la s lane i (2 * y) = 0
        · by_cases hn0 : 0 ≤ W 0 5
          · exact ⟨_, _, n, cr_X7_came_n1 hI s (by omega) lane hl i y hy hg hn0, by omega, fun hq_ hP => pr_i hM hP.2 hn (cn_X8_came_n1 s (by omega) lane hl i y hy hg hn0) (inv_mk hP.1)⟩
          · rcases (show m = 0 ∨ 1 ≤ m by omega) with z | z
            · exact ⟨_, _, n, cr_X7_came_n2 hI s (by omega) lane hl i y hy hg hn0 z, by omega, fun hq_ hP => pr_i hM hP.2 hn (cn_X8_came_n2 s (by omega) lane hl i y hy hg hn0 (by rw [hm0, z]; rfl)) (inv_mk hP.1)⟩
            · obtain ⟨N, h1, h6, rfl⟩ := rg1 (n := 6) rfl hy
              obtain ⟨k, hk, ek⟩ := hI.shk (by omega) hg
              rw [two_n] at hg
              obtain ⟨-, a, rfl, hak⟩ := ag_nat hk (by omega) ek hg
              exact ⟨_, _, n, cr_X7_came hI hn0 z s (by omega) lane hl a N ⟨h1, h6⟩ (by omega) hg, by omega, fun hq_ hP => pr_e hM hP.2 hn (cn_X8_came m hRI hn0 z s (by omega) lane hl a N ⟨h1, h6⟩ (by omega) hg) (fun h3 hS => inv_st hP.1 hS)⟩
        · exact ⟨_, _, n, cr_X7_came_r hI s (by omega) lane hl i y hy hg, by omega, fun hq_ hP => pr_i hM hP.2 hn (cn_X8_came_r s (by omega) lane hl i y hy hg) (inv_mk hP.1)⟩
      · exact ⟨_, _, n, cr_X7_came_b hI x lane i y (fun q => hy q.2.2), by omega, fun hq_ hP => pr_i hM hP.2 hn (cn_X8_came_b3 x lane i y hx hl hy) (inv_mk hP.1)⟩
    · exact ⟨_, _, n, cr_X7_came_b hI x lane i y (fun q => hl q.2.1), by omega, fun hq_ hP => pr_i hM hP.2 hn (cn_X8_came_b2 x lane i y hx hl) (inv_mk hP.1)⟩
  · exact ⟨_, _, n, cr_X7_came_b hI x lane i y (fun q => hx q.1), by omega, fun hq_ hP => pr_i hM hP.2 hn (cn_X8_came_b1 x lane i y hx) (inv_mk hP.1)⟩

theorem PR_film {h : ax_H} {n : Nat} (hV : INV h) (hn : 269 ≤ n) (x y lane i : Int32) : ∃ (ans : Int32) (P : ax_H → Prop) (n2 : Nat), ax_C yX7_film cX7_film 8 (some .int) 5 0 0 [.ref 0, .int x, .int y, .int lane, .int i] h n (kE ans P n2) ∧ n ≤ n2 ∧ ∀ h2, P h2 → (∃ fs, h2 259 = some (.inr (8, fs))) ∧ ax_C yX8_film cX8_film 8 (some .int) 6 0 0 [.ref 259, .int x, .int y, .int lane, .int i] h2 n2 (kE ans INV n2) := by
  obtain ⟨m, u, t, im, iu, W, tp, mn, la, it, hI, aT, nu, ab, be, mv, rd, ms, tk, hM⟩ := hV
  have hRI := hI.2.1.ri
  have hm0 : W 0 12 = nI m := hRI.1.1
  have hm12 : m ≤ 12 := hRI.1.2.1
  have hu6 : u ≤ 6 := (CB.o hI).2.2.2.1
  by_cases hx : 1 ≤ x ∧ x ≤ 12
  · by_cases hy : 0 ≤ y ∧ y ≤ 3
    · by_cases hl : 0 ≤ lane ∧ lane ≤ 3
      · obtain ⟨s, hs, rfl⟩ := rg (n := 3) rfl hy
        by_cases hg : agV mn la s lane i (2 * x) = 0
        · obtain ⟨N, h1, h12, rfl⟩ := rg1 (n := 12) rfl hx
          obtain ⟨k, hk, ek⟩ := hI.shk (by omega) hg
          rw [two_n] at hg
          obtain ⟨-, a, rfl, hak⟩ := ag_nat hk (by omega) ek hg
          exact ⟨_, _, n, cr_X7_film hI N ⟨h1, h12⟩ s (by omega) lane hl a (by omega) hg, by omega, fun hq_ hP => pr_e hM hP.2 hn (cn_X8_film m hRI N ⟨h1, h12⟩ s (by omega) lane hl a (by omega) hg) (fun h3 hS => inv_st hP.1 hS)⟩
        · exact ⟨_, _, n, cr_X7_film_r hI x hx s (by omega) lane i hl hg, by omega, fun hq_ hP => pr_i hM hP.2 hn (cn_X8_film_r x hx s (by omega) lane i hl hg) (inv_mk hP.1)⟩
      · exact ⟨_, _, n, cr_X7_film_b hI x y lane i (fun q => hl q.2.2), by omega, fun hq_ hP => pr_i hM hP.2 hn (cn_X8_film_b3 x y lane i hx hy hl) (inv_mk hP.1)⟩
    · exact ⟨_, _, n, cr_X7_film_b hI x y lane i (fun q => hy q.2.1), by omega, fun hq_ hP => pr_i hM hP.2 hn (cn_X8_film_b2 x y lane i hx hy) (inv_mk hP.1)⟩
  · exact ⟨_, _, n, cr_X7_film_b hI x y lane i (fun q => hx q.1), by omega, fun hq_ hP => pr_i hM hP.2 hn (cn_X8_film_b1 x y lane i hx) (inv_mk hP.1)⟩

theorem PR_sheet {h : ax_H} {n : Nat} (hV : INV h) (hn : 269 ≤ n) (x lane z : Int32) : ∃ (ans : Int32) (P : ax_H → Prop) (n2 : Nat), ax_C yX7_sheet cX7_sheet 4 (some .int) 1 0 0 [.ref 0, .int x, .int lane, .int z] h n (kE ans P n2) ∧ n ≤ n2 ∧ ∀ h2, P h2 → (∃ fs, h2 259 = some (.inr (8, fs))) ∧ ax_C yX8_sheet cX8_sheet 5 (some .int) 2 0 0 [.ref 259, .int x, .int lane, .int z] h2 n2 (kE ans INV n2) := by
  obtain ⟨m, u, t, im, iu, W, tp, mn, la, it, hI, aT, nu, ab, be, mv, rd, ms, tk, hM⟩ := hV
  have hRI := hI.2.1.ri
  have hm0 : W 0 12 = nI m := hRI.1.1
  have hm12 : m ≤ 12 := hRI.1.2.1
  have hu6 : u ≤ 6 := (CB.o hI).2.2.2.1
  by_cases hx : 0 ≤ x ∧ x ≤ 3
  · by_cases hl : 0 ≤ lane ∧ lane ≤ 3
    · by_cases hz : z ≤ 24
      · by_cases hz2 : 0 ≤ z
        · obtain ⟨s, hs, rfl⟩ := rg (n := 3) rfl hx
          exact ⟨_, _, n, cr_X7_sheet hI s (by omega) lane hl z hz hz2, by omega, fun hq_ hP => pr_i hM hP.2 hn (cn_X8_sheet s (by omega) lane hl z hz hz2) (inv_mk hP.1)⟩
        · exact ⟨_, _, n, cr_X7_sheet_s hI x lane z hx hl hz hz2, by omega, fun hq_ hP => pr_i hM hP.2 hn (cn_X8_sheet_s x lane z hx hl hz hz2) (inv_mk hP.1)⟩
      · exact ⟨_, _, n, cr_X7_sheet_b3 hI x lane z hx hl hz, by omega, fun hq_ hP => pr_i hM hP.2 hn (cn_X8_sheet_b3 x lane z hx hl hz) (inv_mk hP.1)⟩
    · exact ⟨_, _, n, cr_X7_sheet_b2 hI x lane z hx hl, by omega, fun hq_ hP => pr_i hM hP.2 hn (cn_X8_sheet_b2 x lane z hx hl) (inv_mk hP.1)⟩
  · exact ⟨_, _, n, cr_X7_sheet_b1 hI x lane z hx, by omega, fun hq_ hP => pr_i hM hP.2 hn (cn_X8_sheet_b1 x lane z hx) (inv_mk hP.1)⟩

theorem PR_drop {h : ax_H} {n : Nat} (hV : INV h) (hn : 269 ≤ n) (x : Int32) : ∃ (ans : Int32) (P : ax_H → Prop) (n2 : Nat), ax_C yX7_drop cX7_drop 3 (some .int) 1 0 0 [.ref 0, .int x] h n (kE ans P n2) ∧ n ≤ n2 ∧ ∀ h2, P h2 → (∃ fs, h2 259 = some (.inr (8, fs))) ∧ ax_C yX8_drop cX8_drop 3 (some .int) 2 0 0 [.ref 259, .int x] h2 n2 (kE ans INV n2) := by
  obtain ⟨m, u, t, im, iu, W, tp, mn, la, it, hI, aT, nu, ab, be, mv, rd, ms, tk, hM⟩ := hV
  have hRI := hI.2.1.ri
  have hm0 : W 0 12 = nI m := hRI.1.1
  have hm12 : m ≤ 12 := hRI.1.2.1
  have hu6 : u ≤ 6 := (CB.o hI).2.2.2.1
  by_cases hx : 0 ≤ x ∧ x ≤ 3
  · obtain ⟨s, hs, rfl⟩ := rg (n := 3) rfl hx
    exact ⟨_, _, n, cr_X7_drop hI s (by omega), by omega, fun hq_ hP => pr_i hM hP.2 hn (cn_X8_drop s (by omega)) (inv_mk hP.1)⟩
  · exact ⟨_, _, n, cr_X7_drop_b hI x hx, by omega, fun hq_ hP => pr_i hM hP.2 hn (cn_X8_drop_b x hx) (inv_mk hP.1)⟩

theorem PR_item {h : ax_H} {n : Nat} (hV : INV h) (hn : 269 ≤ n) (x lane i : Int32) (v : Int64) : ∃ (ans : Int32) (P : ax_H → Prop) (n2 : Nat), ax_C yX7_item cX7_item 7 (some .int) 2 0 0 [.ref 0, .int x, .int lane, .int i, .long v] h n (kE ans P n2) ∧ n ≤ n2 ∧ ∀ h2, P h2 → (∃ fs, h2 259 = some (.inr (8, fs))) ∧ ax_C yX8_item cX8_item 7 (some .int) 2 0 0 [.ref 259, .int x, .int lane, .int i, .long v] h2 n2 (kE ans INV n2) := by
  obtain ⟨m, u, t, im, iu, W, tp, mn, la, it, hI, aT, nu, ab, be, mv, rd, ms, tk, hM⟩ := hV
  have hRI := hI.2.1.ri
  have hm0 : W 0 12 = nI m := hRI.1.1
  have hm12 : m ≤ 12 := hRI.1.2.1
  have hu6 : u ≤ 6 := (CB.o hI).2.2.2.1
  by_cases hx : 0 ≤ x ∧ x ≤ 3
  · by_cases hl : 0 ≤ lane ∧ lane ≤ 3
    · obtain ⟨s, hs, rfl⟩ := rg (n := 3) rfl hx
      by_cases hg : agV mn la s lane i 1 = 0
      · obtain ⟨k, hk, ek⟩ := hI.shk (by omega) hg
        obtain ⟨-, a, rfl, hak⟩ := ag_nat (y := 1) hk (by omega) ek hg
        exact ⟨_, _, n, cr_X7_item hI s (by omega) lane hl a (by omega) v hg, by omega, fun hq_ hP => pr_i hM hP.2 hn (cn_X8_item s (by omega) lane hl a (by omega) v hg) (inv_mk hP.1)⟩
      · exact ⟨_, _, n, cr_X7_item_r hI s (by omega) lane hl i v hg, by omega, fun hq_ hP => pr_i hM hP.2 hn (cn_X8_item_r s (by omega) lane hl i v hg) (inv_mk hP.1)⟩
    · exact ⟨_, _, n, cr_X7_item_b2 hI x lane i v hx hl, by omega, fun hq_ hP => pr_i hM hP.2 hn (cn_X8_item_b2 x lane i v hx hl) (inv_mk hP.1)⟩
  · exact ⟨_, _, n, cr_X7_item_b1 hI x lane i v hx, by omega, fun hq_ hP => pr_i hM hP.2 hn (cn_X8_item_b1 x lane i v hx) (inv_mk hP.1)⟩

theorem PR_copy {h : ax_H} {n : Nat} (hV : INV h) (hn : 269 ≤ n) (x i y j z : Int32) : ∃ (ans : Int32) (P : ax_H → Prop) (n2 : Nat), ax_C yX7_copy cX7_copy 8 (some .int) 1 0 0 [.ref 0, .int x, .int i, .int y, .int j, .int z] h n (kE ans P n2) ∧ n ≤ n2 ∧ ∀ h2, P h2 → (∃ fs, h2 259 = some (.inr (8, fs))) ∧ ax_C yX8_copy cX8_copy 7 (some .int) 2 0 0 [.ref 259, .int x, .int i, .int y, .int j, .int z] h2 n2 (kE ans INV n2) := by
  obtain ⟨m, u, t, im, iu, W, tp, mn, la, it, hI, aT, nu, ab, be, mv, rd, ms, tk, hM⟩ := hV
  have hRI := hI.2.1.ri
  have hm0 : W 0 12 = nI m := hRI.1.1
  have hm12 : m ≤ 12 := hRI.1.2.1
  have hu6 : u ≤ 6 := (CB.o hI).2.2.2.1
  by_cases hx : 0 ≤ x ∧ x ≤ 3
  · by_cases hy : 0 ≤ y ∧ y ≤ 3
    · obtain ⟨s, hs, rfl⟩ := rg (n := 3) rfl hx
      obtain ⟨q, hq, rfl⟩ := rg (n := 3) rfl hy
      by_cases h1 : mn s < 0
      · exact ⟨_, _, n, cr_X7_copy_n1 hI s q (by omega) (by omega) i j z h1, by omega, fun hq_ hP => pr_i hM hP.2 hn (cn_X8_copy_n1 s q (by omega) (by omega) i j z h1) (inv_mk hP.1)⟩
      · by_cases h2 : 0 ≤ mn q
        · by_cases h3 : la s = la q
          · by_cases h4 : agV mn la s (la s) i z = 0
            · by_cases h5 : agV mn la q (la q) j z = 0
              · obtain ⟨k, hk, ek⟩ := hI.shk (by omega) h4
                obtain ⟨k2, hk2, ek2⟩ := hI.shk (by omega) h5
                obtain ⟨a, c, rfl, rfl, hac⟩ := ag_nat2 hk ek h4
                obtain ⟨-, b, rfl, hbc⟩ := ag_nat hk2 (by omega) ek2 h5
                exact ⟨_, _, n, cr_X7_copy hI s q a b c (by omega) (by omega) h1 h2 h3 (by omega) (by omega) h4 h5, by omega, fun h2_ hP => pr_i hM hP.2 hn (cn_X8_copy s q a b c (by omega) (by omega) h1 h2 h3 (by omega) (by omega) h4 h5) (by rw [cyI_eq]; exact inv_mk hP.1)⟩
              · exact ⟨_, _, n, cr_X7_copy_i2 hI s q (by omega) (by omega) i j z h1 h2 h3 h4 h5, by omega, fun hq_ hP => pr_i hM hP.2 hn (cn_X8_copy_i2 s q (by omega) (by omega) i j z h1 h2 h3 h4 h5) (inv_mk hP.1)⟩
            · exact ⟨_, _, n, cr_X7_copy_i1 hI s q (by omega) (by omega) i j z h1 h2 h3 h4, by omega, fun hq_ hP => pr_i hM hP.2 hn (cn_X8_copy_i1 s q (by omega) (by omega) i j z h1 h2 h3 h4) (inv_mk hP.1)⟩
          · exact ⟨_, _, n, cr_X7_copy_c hI s q (by omega) (by omega) i j z h1 h2 h3, by omega, fun hq_ hP => pr_i hM hP.2 hn (cn_X8_copy_c s q (by omega) (by omega) i j z h1 h2 h3) (inv_mk hP.1)⟩
        · exact ⟨_, _, n, cr_X7_copy_n2 hI s q (by omega) (by omega) i j z h1 h2, by omega, fun hq_ hP => pr_i hM hP.2 hn (cn_X8_copy_n2 s q (by omega) (by omega) i j z h1 h2) (inv_mk hP.1)⟩
    · exact ⟨_, _, n, cr_X7_copy_b2 hI x i y j z hx hy, by omega, fun hq_ hP => pr_i hM hP.2 hn (cn_X8_copy_b2 x i y j z hx hy) (inv_mk hP.1)⟩
  · exact ⟨_, _, n, cr_X7_copy_b1 hI x i y j z hx, by omega, fun hq_ hP => pr_i hM hP.2 hn (cn_X8_copy_b1 x i y j z hx) (inv_mk hP.1)⟩

