set_option maxHeartbeats 400000 in
set_option maxRecDepth 100000 in
theorem cn_X8_count0 {h : ax_H} {n : Nat} {M : Nat} {un iu td aT nu ab be : Int32} {tp mv rd ms mn la : Nat → Int32} {W : Nat → Nat → Int32} {it tk : Nat → Int64}  : ax_C yX8_count cX8_count 2 (some .int) 6 0 0 [.ref M, .int 0] (mU h M un iu td aT nu ab be (jn W) tp mv rd ms mn la it tk) n (ki (W 0 12) (mU h M un iu td aT nu ab be (jn W) tp mv rd ms mn la it tk) n) := by
  refine ax_C.go RX8 "count" [some (.ref M), some (.int 0)] rfl rfl pn_X8 (lb rfl) rfl (fun l G cy bs => ?_)
  refine il1 dX8_count_0 ?_
  refine xt_tableIn (off := 39) 40 dX8_count_1 (by decide) (by decide) (by decide) rfl ?_
  refine al0 dX8_count_40 ?_
  refine g_X8_7 dX8_count_41 mU_0 ?_
  refine xt_bipush (12) dX8_count_44 rfl ?_
  refine xt_iald (12) mU_1 (by omega) rfl (by decide) dX8_count_46 ?_
  refine xt_top (congrArg Value.int (jnw (q := 0) (c := 12) (by omega) (by omega))) ?_
  exact xt_iret dX8_count_47 rfl (lb rfl) (lb rfl) ⟨rfl, rfl, rfl⟩
set_option maxHeartbeats 400000 in
set_option maxRecDepth 100000 in
theorem cn_X8_count1 {h : ax_H} {n : Nat} {M : Nat} {un iu td aT nu ab be : Int32} {tp mv rd ms mn la : Nat → Int32} {W : Nat → Nat → Int32} {it tk : Nat → Int64}  : ax_C yX8_count cX8_count 2 (some .int) 6 0 0 [.ref M, .int 1] (mU h M un iu td aT nu ab be (jn W) tp mv rd ms mn la it tk) n (ki (if 0 ≤ W 0 5 then 1 else 0) (mU h M un iu td aT nu ab be (jn W) tp mv rd ms mn la it tk) n) := by
  refine ax_C.go RX8 "count" [some (.ref M), some (.int 1)] rfl rfl pn_X8 (lb rfl) rfl (fun l G cy bs => ?_)
  refine il1 dX8_count_0 ?_
  refine xt_tableIn (off := 47) 48 dX8_count_1 (by decide) (by decide) (by decide) rfl ?_
  refine al0 dX8_count_48 ?_
  refine g_X8_7 dX8_count_49 mU_0 ?_
  refine xt_iconst (5) dX8_count_52 rfl ?_
  refine xt_iald (5) mU_1 (by omega) rfl (by decide) dX8_count_53 ?_
  refine xt_top (congrArg Value.int (jnw (q := 0) (c := 5) (by omega) (by omega))) ?_
  apply xj_if_ge 61 dX8_count_54 rfl
  · intro k54
    refine ⟨fun c54 => ?_, fun c54 => ?_⟩
    · refine xt_iconst (1) dX8_count_61 rfl ?_
      exact xt_it1 k54 c54
    · refine xt_iconst (0) dX8_count_57 rfl ?_
      refine xt_goto 62 dX8_count_58 rfl ?_
      exact xt_it2 k54 c54
  · skip
    exact xt_iret dX8_count_62 rfl (lb rfl) (lb rfl) ⟨rfl, rfl, rfl⟩
set_option maxHeartbeats 400000 in
set_option maxRecDepth 100000 in
theorem cn_X8_count2 {h : ax_H} {n : Nat} {M : Nat} {un iu td aT nu ab be : Int32} {tp mv rd ms mn la : Nat → Int32} {W : Nat → Nat → Int32} {it tk : Nat → Int64}  : ax_C yX8_count cX8_count 2 (some .int) 6 0 0 [.ref M, .int 2] (mU h M un iu td aT nu ab be (jn W) tp mv rd ms mn la it tk) n (ki (W 0 3) (mU h M un iu td aT nu ab be (jn W) tp mv rd ms mn la it tk) n) := by
  refine ax_C.go RX8 "count" [some (.ref M), some (.int 2)] rfl rfl pn_X8 (lb rfl) rfl (fun l G cy bs => ?_)
  refine il1 dX8_count_0 ?_
  refine xt_tableIn (off := 62) 63 dX8_count_1 (by decide) (by decide) (by decide) rfl ?_
  refine al0 dX8_count_63 ?_
  refine g_X8_7 dX8_count_64 mU_0 ?_
  refine xt_iconst (3) dX8_count_67 rfl ?_
  refine xt_iald (3) mU_1 (by omega) rfl (by decide) dX8_count_68 ?_
  refine xt_top (congrArg Value.int (jnw (q := 0) (c := 3) (by omega) (by omega))) ?_
  exact xt_iret dX8_count_69 rfl (lb rfl) (lb rfl) ⟨rfl, rfl, rfl⟩
set_option maxHeartbeats 400000 in
set_option maxRecDepth 100000 in
theorem cn_X8_count3 {h : ax_H} {n : Nat} {M : Nat} {un iu td aT nu ab be : Int32} {tp mv rd ms mn la : Nat → Int32} {W : Nat → Nat → Int32} {it tk : Nat → Int64} (m : Nat) (hm : W 0 12 = nI m) (hm2 : m ≤ 12) : ax_C yX8_count cX8_count 2 (some .int) 6 0 0 [.ref M, .int 3] (mU h M un iu td aT nu ab be (jn W) tp mv rd ms mn la it tk) n (ki (sLeft (W 0) m) (mU h M un iu td aT nu ab be (jn W) tp mv rd ms mn la it tk) n) := by
  refine ax_C.go RX8 "count" [some (.ref M), some (.int 3)] rfl rfl pn_X8 (lb rfl) rfl (fun l G cy bs => ?_)
  refine il1 dX8_count_0 ?_
  refine xt_tableIn (off := 69) 70 dX8_count_1 (by decide) (by decide) (by decide) rfl ?_
  refine al0 dX8_count_70 ?_
  refine xt_iconst (0) dX8_count_71 rfl ?_
  refine s_X8_116 dX8_count_72 (by have z := cn_X8_leftOf (h := h) (n := n) (M := M) (un := un) (iu := iu) (td := td) (aT := aT) (nu := nu) (ab := ab) (be := be) (tp := tp) (mv := mv) (rd := rd) (ms := ms) (mn := mn) (la := la) (it := it) (tk := tk) (W := W) (r := W 0) (q := 0) m (by omega) hm hm2; rw [up_id] at z; exact z) mU_0 ⟨lb rfl, lb rfl, lb rfl, lb rfl⟩ ?_
  exact xt_iret dX8_count_75 rfl (lb rfl) (lb rfl) ⟨rfl, rfl, rfl⟩
set_option maxHeartbeats 400000 in
set_option maxRecDepth 100000 in
theorem cn_X8_count4 {h : ax_H} {n : Nat} {M : Nat} {un iu td aT nu ab be : Int32} {tp mv rd ms mn la : Nat → Int32} {W : Nat → Nat → Int32} {it tk : Nat → Int64} (m : Nat) (hm : W 0 12 = nI m) (hm2 : m ≤ 12) : ax_C yX8_count cX8_count 2 (some .int) 6 0 0 [.ref M, .int 4] (mU h M un iu td aT nu ab be (jn W) tp mv rd ms mn la it tk) n (ki (kdS (W 0) m) (mU h M un iu td aT nu ab be (jn W) tp mv rd ms mn la it tk) n) := by
  refine ax_C.go RX8 "count" [some (.ref M), some (.int 4)] rfl rfl pn_X8 (lb rfl) rfl (fun l G cy bs => ?_)
  refine il1 dX8_count_0 ?_
  refine xt_tableIn (off := 75) 76 dX8_count_1 (by decide) (by decide) (by decide) rfl ?_
  refine al0 dX8_count_76 ?_
  refine s_X8_119 dX8_count_77 (cn_X8_kinds _ hm hm2) mU_0 ⟨lb rfl, lb rfl, lb rfl, lb rfl⟩ ?_
  exact xt_iret dX8_count_80 rfl (lb rfl) (lb rfl) ⟨rfl, rfl, rfl⟩
set_option maxHeartbeats 400000 in
set_option maxRecDepth 100000 in
theorem cn_X8_count5 {h : ax_H} {n : Nat} {M : Nat} {un iu td aT nu ab be : Int32} {tp mv rd ms mn la : Nat → Int32} {W : Nat → Nat → Int32} {it tk : Nat → Int64}  : ax_C yX8_count cX8_count 2 (some .int) 6 0 0 [.ref M, .int 5] (mU h M un iu td aT nu ab be (jn W) tp mv rd ms mn la it tk) n (ki (un) (mU h M un iu td aT nu ab be (jn W) tp mv rd ms mn la it tk) n) := by
  refine ax_C.go RX8 "count" [some (.ref M), some (.int 5)] rfl rfl pn_X8 (lb rfl) rfl (fun l G cy bs => ?_)
  refine il1 dX8_count_0 ?_
  refine xt_tableIn (off := 80) 81 dX8_count_1 (by decide) (by decide) (by decide) rfl ?_
  refine al0 dX8_count_81 ?_
  refine g_X8_42 dX8_count_82 mU_0 ?_
  exact xt_iret dX8_count_85 rfl (lb rfl) (lb rfl) ⟨rfl, rfl, rfl⟩
set_option maxHeartbeats 400000 in
set_option maxRecDepth 100000 in
theorem cn_X8_count_b {h : ax_H} {n : Nat} {M : Nat} {un iu td aT nu ab be : Int32} {tp mv rd ms mn la : Nat → Int32} {W : Nat → Nat → Int32} {it tk : Nat → Int64} (x : Int32) (hx : x.toInt < 0 ∨ 5 < x.toInt) : ax_C yX8_count cX8_count 2 (some .int) 6 0 0 [.ref M, .int x] (mU h M un iu td aT nu ab be (jn W) tp mv rd ms mn la it tk) n (ki ((-1000001)) (mU h M un iu td aT nu ab be (jn W) tp mv rd ms mn la it tk) n) := by
  refine ax_C.go RX8 "count" [some (.ref M), some (.int x)] rfl rfl pn_X8 (lb rfl) rfl (fun l G cy bs => ?_)
  refine il1 dX8_count_0 ?_
  refine xt_tableOut 86 dX8_count_1 hx rfl ?_
  refine k_X8_112 dX8_count_86 ?_
  exact xt_iret dX8_count_88 rfl (lb rfl) (lb rfl) ⟨rfl, rfl, rfl⟩
set_option maxHeartbeats 400000 in
set_option maxRecDepth 100000 in
theorem cn_X8_type_b {h : ax_H} {n : Nat} {M : Nat} {un iu td aT nu ab be : Int32} {tp mv rd ms mn la : Nat → Int32} {W : Nat → Nat → Int32} {it tk : Nat → Int64} (x : Int32) (hx : ¬ (32 ≤ x ∧ x ≤ 126)) : ax_C yX8_type cX8_type 2 (some .int) 1 0 0 [.ref M, .int x] (mU h M un iu td aT nu ab be (jn W) tp mv rd ms mn la it tk) n (ki ((-1000001)) (mU h M un iu td aT nu ab be (jn W) tp mv rd ms mn la it tk) n) := by
  refine ax_C.go RX8 "type" [some (.ref M), some (.int x)] rfl rfl pn_X8 (lb rfl) rfl (fun l G cy bs => ?_)
  refine il1 dX8_type_0 ?_
  refine xt_i2l dX8_type_1 ?_
  refine k_X8_123 dX8_type_2 ?_
  refine k_X8_125 dX8_type_5 ?_
  refine s_X8_51 dX8_type_8 (cn_X8_inI _ (32) (126) rfl rfl) ⟨lb rfl, lb rfl, lb rfl, lb rfl⟩ ?_
  refine xt_if_ne 17 dX8_type_11 rfl (fun q => absurd (fl0 hx) q) (fun _ => ?_)
  refine k_X8_112 dX8_type_14 ?_
  exact xt_iret dX8_type_16 rfl (lb rfl) (lb rfl) ⟨rfl, rfl, rfl⟩
set_option maxHeartbeats 400000 in
set_option maxRecDepth 100000 in
theorem cn_X8_type_f {h : ax_H} {n : Nat} {M : Nat} {un iu aT nu ab be : Int32} {tp mv rd ms mn la : Nat → Int32} {W : Nat → Nat → Int32} {it tk : Nat → Int64} (x : Int32) (hx : 32 ≤ x ∧ x ≤ 126) : ax_C yX8_type cX8_type 2 (some .int) 1 0 0 [.ref M, .int x] (mU h M un iu (nI 140) aT nu ab be (jn W) tp mv rd ms mn la it tk) n (ki ((-1000003)) (mU h M un iu (nI 140) aT nu ab be (jn W) tp mv rd ms mn la it tk) n) := by
  refine ax_C.go RX8 "type" [some (.ref M), some (.int x)] rfl rfl pn_X8 (lb rfl) rfl (fun l G cy bs => ?_)
  refine il1 dX8_type_0 ?_
  refine xt_i2l dX8_type_1 ?_
  refine k_X8_123 dX8_type_2 ?_
  refine k_X8_125 dX8_type_5 ?_
  refine s_X8_51 dX8_type_8 (cn_X8_inI _ (32) (126) rfl rfl) ⟨lb rfl, lb rfl, lb rfl, lb rfl⟩ ?_
  refine xt_if_ne 17 dX8_type_11 rfl (fun _ => ?_) (fun q => absurd q (fl1 hx))
  refine al0 dX8_type_17 ?_
  refine g_X8_127 dX8_type_18 mU_0 ?_
  refine xt_sipush (140) dX8_type_21 rfl ?_
  refine xt_icmp_ne 30 dX8_type_24 rfl (fun q => absurd rfl q) (fun _ => ?_)
  refine k_X8_130 dX8_type_27 ?_
  exact xt_iret dX8_type_29 rfl (lb rfl) (lb rfl) ⟨rfl, rfl, rfl⟩
set_option maxHeartbeats 400000 in
set_option maxRecDepth 100000 in
theorem cn_X8_type {h : ax_H} {n : Nat} {M : Nat} {un iu aT nu ab be : Int32} {tp mv rd ms mn la : Nat → Int32} {W : Nat → Nat → Int32} {it tk : Nat → Int64} (x : Int32) (hx : 32 ≤ x ∧ x ≤ 126) (t : Nat) (ht : t < 140) : ax_C yX8_type cX8_type 2 (some .int) 1 0 0 [.ref M, .int x] (mU h M un iu (nI t) aT nu ab be (jn W) tp mv rd ms mn la it tk) n (ki (nI (t + 1)) (mU h M un iu (nI (t + 1)) aT nu ab be (jn W) (upd tp t x) mv rd ms mn la it tk) n) := by
  refine ax_C.go RX8 "type" [some (.ref M), some (.int x)] rfl rfl pn_X8 (lb rfl) rfl (fun l G cy bs => ?_)
  refine il1 dX8_type_0 ?_
  refine xt_i2l dX8_type_1 ?_
  refine k_X8_123 dX8_type_2 ?_
  refine k_X8_125 dX8_type_5 ?_
  refine s_X8_51 dX8_type_8 (cn_X8_inI _ (32) (126) rfl rfl) ⟨lb rfl, lb rfl, lb rfl, lb rfl⟩ ?_
  refine xt_if_ne 17 dX8_type_11 rfl (fun _ => ?_) (fun q => absurd q (fl1 hx))
  refine al0 dX8_type_17 ?_
  refine g_X8_127 dX8_type_18 mU_0 ?_
  refine xt_sipush (140) dX8_type_21 rfl ?_
  refine xt_icmp_ne 30 dX8_type_24 rfl (fun _ => ?_) (fun q => absurd q (fun e => absurd ((nI_eq (a := t) (b := 140) (by omega) (by decide)).mp e) (by omega)))
  refine al0 dX8_type_30 ?_
  refine g_X8_17 dX8_type_31 mU_0 ?_
  refine al0 dX8_type_34 ?_
  refine g_X8_127 dX8_type_35 mU_0 ?_
  refine il1 dX8_type_38 ?_
  refine xt_iast (t) mU_2 (by omega) rfl (by decide) dX8_type_39 ?_
  refine xt_heq mU_p2 ?_
  refine al0 dX8_type_40 ?_
  refine xt_dup dX8_type_41 rfl ?_
  refine g_X8_127 dX8_type_42 mU_0 ?_
  refine xt_iconst (1) dX8_type_45 rfl ?_
  refine xt_iadd dX8_type_46 ?_
  refine xt_eqv (nI (t + 1)) (nI_1 _) ?_
  refine p_X8_127 dX8_type_47 mU_0 ?_
  refine xt_heq mU_p0 ?_
  refine al0 dX8_type_50 ?_
  refine g_X8_127 dX8_type_51 mU_0 ?_
  exact xt_iret dX8_type_54 rfl (lb rfl) (lb rfl) ⟨rfl, rfl, rfl⟩
set_option maxHeartbeats 400000 in
set_option maxRecDepth 100000 in
theorem cn_X8_push_b {h : ax_H} {n : Nat} {M : Nat} {un iu td aT nu ab be : Int32} {tp mv rd ms mn la : Nat → Int32} {W : Nat → Nat → Int32} {it tk : Nat → Int64} (k x y z : Int32) (hp0 : ¬ okP k x y z) : ax_C yX8_push cX8_push 5 (some .int) 2 0 0 [.ref M, .int k, .int x, .int y, .int z] (mU h M un iu td aT nu ab be (jn W) tp mv rd ms mn la it tk) n (ki ((-1000001)) (mU h M un iu td aT nu ab be (jn W) tp mv rd ms mn la it tk) n) := by
  refine ax_C.go RX8 "push" [some (.ref M), some (.int k), some (.int x), some (.int y), some (.int z)] rfl rfl pn_X8 (lb rfl) rfl (fun l G cy bs => ?_)
  refine il1 dX8_push_0 ?_
  refine il2 dX8_push_1 ?_
  refine il3 dX8_push_2 ?_
  refine il4 dX8_push_3 ?_
  refine s_X8_154 dX8_push_5 (cn_X8_isPiece _ _ _ _) ⟨lb rfl, lb rfl, lb rfl, lb rfl⟩ ?_
  refine xt_if_ne 14 dX8_push_8 rfl (fun q => absurd (fl0 hp0) q) (fun _ => ?_)
  refine k_X8_112 dX8_push_11 ?_
  exact xt_iret dX8_push_13 rfl (lb rfl) (lb rfl) ⟨rfl, rfl, rfl⟩
set_option maxHeartbeats 400000 in
set_option maxRecDepth 100000 in
theorem cn_X8_push_f {h : ax_H} {n : Nat} {M : Nat} {un iu td aT nu ab be : Int32} {tp mv rd ms mn la : Nat → Int32} {W : Nat → Nat → Int32} {it tk : Nat → Int64} (k x y z : Int32) (hp0 : okP k x y z) (hm : W 0 12 = nI 12) : ax_C yX8_push cX8_push 5 (some .int) 2 0 0 [.ref M, .int k, .int x, .int y, .int z] (mU h M un iu td aT nu ab be (jn W) tp mv rd ms mn la it tk) n (ki ((-1000003)) (mU h M un iu td aT nu ab be (jn W) tp mv rd ms mn la it tk) n) := by
  refine ax_C.go RX8 "push" [some (.ref M), some (.int k), some (.int x), some (.int y), some (.int z)] rfl rfl pn_X8 (lb rfl) rfl (fun l G cy bs => ?_)
  refine il1 dX8_push_0 ?_
  refine il2 dX8_push_1 ?_
  refine il3 dX8_push_2 ?_
  refine il4 dX8_push_3 ?_
  refine s_X8_154 dX8_push_5 (cn_X8_isPiece _ _ _ _) ⟨lb rfl, lb rfl, lb rfl, lb rfl⟩ ?_
  refine xt_if_ne 14 dX8_push_8 rfl (fun _ => ?_) (fun q => absurd q (fl1 hp0))
  refine al0 dX8_push_14 ?_
  refine g_X8_7 dX8_push_15 mU_0 ?_
  refine xt_bipush (12) dX8_push_18 rfl ?_
  refine xt_iald (12) mU_1 (by omega) rfl (by decide) dX8_push_20 ?_
  refine xt_top (congrArg Value.int (jnw (q := 0) (c := 12) (by omega) (by omega))) ?_
  refine xt_eqv (nI (12)) hm ?_
  refine xt_bipush (12) dX8_push_21 rfl ?_
  refine xt_icmp_ne 29 dX8_push_23 rfl (fun q => absurd rfl q) (fun _ => ?_)
  refine k_X8_130 dX8_push_26 ?_
  exact xt_iret dX8_push_28 rfl (lb rfl) (lb rfl) ⟨rfl, rfl, rfl⟩
set_option maxHeartbeats 400000 in
set_option maxRecDepth 100000 in
theorem cn_X8_jump_b {h : ax_H} {n : Nat} {M : Nat} {un iu td aT nu ab be : Int32} {tp mv rd ms mn la : Nat → Int32} {W : Nat → Nat → Int32} {it tk : Nat → Int64} (k x y z : Int32) (hp0 : ¬ okP k x y z) : ax_C yX8_jump cX8_jump 6 (some .int) 2 0 0 [.ref M, .int k, .int x, .int y, .int z] (mU h M un iu td aT nu ab be (jn W) tp mv rd ms mn la it tk) n (ki ((-1000001)) (mU h M un iu td aT nu ab be (jn W) tp mv rd ms mn la it tk) n) := by
  refine ax_C.go RX8 "jump" [some (.ref M), some (.int k), some (.int x), some (.int y), some (.int z), none] rfl rfl pn_X8 (lb rfl) rfl (fun l G cy bs => ?_)
  refine il1 dX8_jump_0 ?_
  refine il2 dX8_jump_1 ?_
  refine il3 dX8_jump_2 ?_
  refine il4 dX8_jump_3 ?_
  refine s_X8_154 dX8_jump_5 (cn_X8_isPiece _ _ _ _) ⟨lb rfl, lb rfl, lb rfl, lb rfl⟩ ?_
  refine xt_if_ne 14 dX8_jump_8 rfl (fun q => absurd (fl0 hp0) q) (fun _ => ?_)
  refine k_X8_112 dX8_jump_11 ?_
  exact xt_iret dX8_jump_13 rfl (lb rfl) (lb rfl) ⟨rfl, rfl, rfl⟩
set_option maxHeartbeats 400000 in
set_option maxRecDepth 100000 in
theorem cn_X8_jump_f {h : ax_H} {n : Nat} {M : Nat} {un iu td aT nu ab be : Int32} {tp mv rd ms mn la : Nat → Int32} {W : Nat → Nat → Int32} {it tk : Nat → Int64} (k x y z : Int32) (hp0 : okP k x y z) (hm : W 0 12 = nI 12) : ax_C yX8_jump cX8_jump 6 (some .int) 2 0 0 [.ref M, .int k, .int x, .int y, .int z] (mU h M un iu td aT nu ab be (jn W) tp mv rd ms mn la it tk) n (ki ((-1000003)) (mU h M un iu td aT nu ab be (jn W) tp mv rd ms mn la it tk) n) := by
  refine ax_C.go RX8 "jump" [some (.ref M), some (.int k), some (.int x), some (.int y), some (.int z), none] rfl rfl pn_X8 (lb rfl) rfl (fun l G cy bs => ?_)
  refine il1 dX8_jump_0 ?_
  refine il2 dX8_jump_1 ?_
  refine il3 dX8_jump_2 ?_
  refine il4 dX8_jump_3 ?_
  refine s_X8_154 dX8_jump_5 (cn_X8_isPiece _ _ _ _) ⟨lb rfl, lb rfl, lb rfl, lb rfl⟩ ?_
  refine xt_if_ne 14 dX8_jump_8 rfl (fun _ => ?_) (fun q => absurd q (fl1 hp0))
  refine al0 dX8_jump_14 ?_
  refine g_X8_7 dX8_jump_15 mU_0 ?_
  refine xt_bipush (12) dX8_jump_18 rfl ?_
  refine xt_iald (12) mU_1 (by omega) rfl (by decide) dX8_jump_20 ?_
  refine xt_top (congrArg Value.int (jnw (q := 0) (c := 12) (by omega) (by omega))) ?_
  refine xt_eqv (nI (12)) hm ?_
  refine xt_bipush (12) dX8_jump_21 rfl ?_
  refine xt_icmp_ne 29 dX8_jump_23 rfl (fun q => absurd rfl q) (fun _ => ?_)
  refine k_X8_130 dX8_jump_26 ?_
  exact xt_iret dX8_jump_28 rfl (lb rfl) (lb rfl) ⟨rfl, rfl, rfl⟩
def pushR (r : Nat → Int32) (m : Nat) (k x y z : Int32) : Nat → Int32 := upd (lay r (13 + 4 * m) k x y z) 12 (nI (m + 1))
theorem lay_lo {r : Nat → Int32} {c j : Nat} {k x y z : Int32} (h : j < c) : lay r c k x y z j = r j := by
  simp only [lay, upd]
  rw [if_neg (by omega), if_neg (by omega), if_neg (by omega), if_neg (by omega)]
set_option maxHeartbeats 400000 in
set_option maxRecDepth 100000 in
theorem cn_X8_push {h : ax_H} {n : Nat} {M : Nat} {iu td aT nu ab be : Int32} {tp mv rd ms mn la : Nat → Int32} {W : Nat → Nat → Int32} {it tk : Nat → Int64} (u : Nat) (hu : u ≤ 6) (m : Nat) (hm : W 0 12 = nI m) (hm2 : m < 12) (k x y z : Int32) (hp0 : okP k x y z) : ax_C yX8_push cX8_push 5 (some .int) 2 0 0 [.ref M, .int k, .int x, .int y, .int z] (mU h M (nI u) iu td aT nu ab be (jn W) tp mv rd ms mn la it tk) n (ki (nI (m + 1)) (mU h M (nI (mdU u)) iu td aT nu ab be (jn (va_up (mdW W u) 0 (pushR (W 0) m k x y z))) tp mv rd ms mn la it tk) n) := by
  refine ax_C.go RX8 "push" [some (.ref M), some (.int k), some (.int x), some (.int y), some (.int z)] rfl rfl pn_X8 (lb rfl) rfl (fun l G cy bs => ?_)
  refine il1 dX8_push_0 ?_
  refine il2 dX8_push_1 ?_
  refine il3 dX8_push_2 ?_
  refine il4 dX8_push_3 ?_
  refine s_X8_154 dX8_push_5 (cn_X8_isPiece _ _ _ _) ⟨lb rfl, lb rfl, lb rfl, lb rfl⟩ ?_
  refine xt_if_ne 14 dX8_push_8 rfl (fun _ => ?_) (fun q => absurd q (fl1 hp0))
  refine al0 dX8_push_14 ?_
  refine g_X8_7 dX8_push_15 mU_0 ?_
  refine xt_bipush (12) dX8_push_18 rfl ?_
  refine xt_iald (12) mU_1 (by omega) rfl (by decide) dX8_push_20 ?_
  refine xt_top (congrArg Value.int (jnw (q := 0) (c := 12) (by omega) (by omega))) ?_
  refine xt_eqv (nI (m)) hm ?_
  refine xt_bipush (12) dX8_push_21 rfl ?_
  refine xt_icmp_ne 29 dX8_push_23 rfl (fun _ => ?_) (fun q => absurd q (fun e => absurd ((nI_eq (a := m) (b := 12) (by omega) (by decide)).mp e) (by omega)))
  refine al0 dX8_push_29 ?_
  refine s_X8_165 dX8_push_30 (cn_X8_minds u hu) mU_0 ⟨lb rfl, lb rfl, lb rfl, lb rfl⟩ ?_
  refine xt_heq (congrArg (fun z => (mU h M (nI (mdU u)) iu td aT nu ab be (jn z) tp mv rd ms mn la it tk)) (mdW_row W u)) ?_
  refine al0 dX8_push_33 ?_
  refine xt_bipush (13) dX8_push_34 rfl ?_
  refine xt_iconst (4) dX8_push_36 rfl ?_
  refine al0 dX8_push_37 ?_
  refine g_X8_7 dX8_push_38 mU_0 ?_
  refine xt_bipush (12) dX8_push_41 rfl ?_
  refine xt_iald (12) mU_1 (by omega) rfl (by decide) dX8_push_43 ?_
  refine xt_top (congrArg Value.int (jnr (c := 12) (by omega) (by omega))) ?_
  refine xt_eqv (nI (m)) hm ?_
  refine xt_imul dX8_push_44 ?_
  refine xt_iadd dX8_push_45 ?_
  refine xt_eqv (nI (61 * 0 + (13 + 4 * m))) ((ne_add (a := 13) (b := (4) * (m)) rfl (ne_mul (a := 4) (b := m) rfl rfl)).trans (congrArg nI (by omega))) ?_
  refine il1 dX8_push_46 ?_
  refine il2 dX8_push_47 ?_
  refine il3 dX8_push_48 ?_
  refine il4 dX8_push_49 ?_
  refine s_X8_168 dX8_push_51 (cn_X8_lays ((13 + 4 * m)) (by omega) (by omega) _ _ _ _) mU_0 ⟨lb rfl, lb rfl, lb rfl, lb rfl⟩ ?_
  refine al0 dX8_push_54 ?_
  refine g_X8_7 dX8_push_55 mU_0 ?_
  refine xt_bipush (12) dX8_push_58 rfl ?_
  refine xt_dup2 dX8_push_60 rfl rfl ?_
  refine xt_iald (12) mU_1 (by omega) rfl (by decide) dX8_push_61 ?_
  refine xt_top (congrArg Value.int (jnr (c := 12) (by omega) (by omega))) ?_
  refine xt_eqv (nI (m)) (by rw [lay_lo (by omega)]; exact hm) ?_
  refine xt_iconst (1) dX8_push_62 rfl ?_
  refine xt_iadd dX8_push_63 ?_
  refine xt_eqv (nI (m + 1)) (nI_1 _) ?_
  refine xt_iast (12) mU_1 (by omega) rfl (by decide) dX8_push_64 ?_
  refine xt_heq (mU_pr (c := 12) (by omega) (by omega)) ?_
  refine al0 dX8_push_65 ?_
  refine g_X8_7 dX8_push_66 mU_0 ?_
  refine xt_bipush (12) dX8_push_69 rfl ?_
  refine xt_iald (12) mU_1 (by omega) rfl (by decide) dX8_push_71 ?_
  refine xt_top (congrArg Value.int (jnr (c := 12) (by omega) (by omega))) ?_
  exact xt_iret dX8_push_72 rfl (lb rfl) (lb rfl) ⟨by simp [upd], rfl, rfl⟩
/-- the numbers of a row from 13 on go up by four, k of them from the top are done -/
def jpR (r : Nat → Int32) (m : Nat) : Nat → Nat → Int32
  | 0 => r
  | d + 1 => upd (jpR r m d) (13 + (4 * m - 1 - d) + 4) (jpR r m d (13 + (4 * m - 1 - d)))
theorem jpR_s (r : Nat → Int32) (m d : Nat) : jpR r m (d + 1) = upd (jpR r m d) (13 + (4 * m - 1 - d) + 4) (jpR r m d (13 + (4 * m - 1 - d))) := rfl
theorem jpR_lo (r : Nat → Int32) (m : Nat) {j : Nat} (h : j < 17) : ∀ d, jpR r m d j = r j
  | 0 => rfl
  | d + 1 => by rw [jpR_s, upd, if_neg (by omega)]; exact jpR_lo r m h d
def jumpR (r : Nat → Int32) (m : Nat) (k x y z : Int32) : Nat → Int32 := upd (lay (jpR r m (4 * m)) 13 k x y z) 12 (nI (m + 1))
theorem int_m1 : (nI 0 : Int32) + Int32.ofInt (-1) < 0 := by decide
theorem nI_dec (k : Nat) : nI (k + 1) + Int32.ofInt (-1) = nI k := by rw [inc_m1]; exact nI_pred k
set_option maxHeartbeats 400000 in
set_option maxRecDepth 100000 in
theorem cn_X8_jump {h : ax_H} {n : Nat} {M : Nat} {iu td aT nu ab be : Int32} {tp mv rd ms mn la : Nat → Int32} {W : Nat → Nat → Int32} {it tk : Nat → Int64} (u : Nat) (hu : u ≤ 6) (m : Nat) (hm : W 0 12 = nI m) (hm2 : m < 12) (k x y z : Int32) (hp0 : okP k x y z) : ax_C yX8_jump cX8_jump 6 (some .int) 2 0 0 [.ref M, .int k, .int x, .int y, .int z] (mU h M (nI u) iu td aT nu ab be (jn W) tp mv rd ms mn la it tk) n (ki (nI (m + 1)) (mU h M (nI (mdU u)) iu td aT nu ab be (jn (va_up (mdW W u) 0 (jumpR (W 0) m k x y z))) tp mv rd ms mn la it tk) n) := by
  refine ax_C.go RX8 "jump" [some (.ref M), some (.int k), some (.int x), some (.int y), some (.int z), none] rfl rfl pn_X8 (lb rfl) rfl (fun l G cy bs => ?_)
  have ex : ∀ (v : Int32), v < 0 → ax_T l G cy bs (ax_rm 2 0 0) RX8 "jump" cX8_jump 6 (some .int) (ki (nI (m + 1)) (mU h M (nI (mdU u)) iu td aT nu ab be (jn (va_up (mdW W u) 0 (jumpR (W 0) m k x y z))) tp mv rd ms mn la it tk) n) 0 0 46 [some (.ref M), some (.int k), some (.int x), some (.int y), some (.int z), some (.int v)] [] (mU h M (nI (mdU u)) iu td aT nu ab be (jn (va_up (mdW W u) 0 (jpR (W 0) m (4 * m)))) tp mv rd ms mn la it tk) n 0 0 := by
    intro v hv
    refine il5 dX8_jump_46 ?_
    refine xt_if_lt 79 dX8_jump_48 rfl (fun _ => ?_) (fun q => absurd hv q)
    refine al0 dX8_jump_79 ?_
    refine xt_bipush (13) dX8_jump_80 rfl ?_
    refine xt_eqv (nI (61 * 0 + 13)) rfl ?_
    refine il1 dX8_jump_82 ?_
    refine il2 dX8_jump_83 ?_
    refine il3 dX8_jump_84 ?_
    refine il4 dX8_jump_85 ?_
    refine s_X8_168 dX8_jump_87 (cn_X8_lays (13) (by omega) (by omega) _ _ _ _) mU_0 ⟨lb rfl, lb rfl, lb rfl, lb rfl⟩ ?_
    refine al0 dX8_jump_90 ?_
    refine g_X8_7 dX8_jump_91 mU_0 ?_
    refine xt_bipush (12) dX8_jump_94 rfl ?_
    refine xt_dup2 dX8_jump_96 rfl rfl ?_
    refine xt_iald (12) mU_1 (by omega) rfl (by decide) dX8_jump_97 ?_
    refine xt_top (congrArg Value.int (jnr (c := 12) (by omega) (by omega))) ?_
    refine xt_eqv (nI (m)) (by rw [lay_lo (by omega), jpR_lo _ _ (by omega)]; exact hm) ?_
    refine xt_iconst (1) dX8_jump_98 rfl ?_
    refine xt_iadd dX8_jump_99 ?_
    refine xt_eqv (nI (m + 1)) (nI_1 _) ?_
    refine xt_iast (12) mU_1 (by omega) rfl (by decide) dX8_jump_100 ?_
    refine xt_heq (mU_pr (c := 12) (by omega) (by omega)) ?_
    refine al0 dX8_jump_101 ?_
    refine g_X8_7 dX8_jump_102 mU_0 ?_
    refine xt_bipush (12) dX8_jump_105 rfl ?_
    refine xt_iald (12) mU_1 (by omega) rfl (by decide) dX8_jump_107 ?_
    refine xt_top (congrArg Value.int (jnr (c := 12) (by omega) (by omega))) ?_
    exact xt_iret dX8_jump_108 rfl (lb rfl) (lb rfl) ⟨by simp [upd], rfl, rfl⟩
  have lp : ∀ (k1 d : Nat), d + (k1 + 1) = 4 * m → ∀ r1 : Nat → Int32, r1 = jpR (W 0) m d → ax_T l G cy bs (ax_rm 2 0 0) RX8 "jump" cX8_jump 6 (some .int) (ki (nI (m + 1)) (mU h M (nI (mdU u)) iu td aT nu ab be (jn (va_up (mdW W u) 0 (jumpR (W 0) m k x y z))) tp mv rd ms mn la it tk) n) 0 0 46 [some (.ref M), some (.int k), some (.int x), some (.int y), some (.int z), some (.int (nI k1))] [] (mU h M (nI (mdU u)) iu td aT nu ab be (jn (va_up (mdW W u) 0 r1)) tp mv rd ms mn la it tk) n 0 0 := by
    intro k1
    induction k1 with
    | zero =>
      intro d hd r1 hr1
      refine il5 dX8_jump_46 ?_
      refine xt_if_lt 79 dX8_jump_48 rfl (fun q => absurd q (nI_pos (by omega))) (fun _ => ?_)
      refine al0 dX8_jump_51 ?_
      refine g_X8_7 dX8_jump_52 mU_0 ?_
      refine xt_bipush (13) dX8_jump_55 rfl ?_
      refine il5 dX8_jump_57 ?_
      refine xt_iadd dX8_jump_59 ?_
      refine xt_iconst (4) dX8_jump_60 rfl ?_
      refine xt_iadd dX8_jump_61 ?_
      refine al0 dX8_jump_62 ?_
      refine g_X8_7 dX8_jump_63 mU_0 ?_
      refine xt_bipush (13) dX8_jump_66 rfl ?_
      refine il5 dX8_jump_68 ?_
      refine xt_iadd dX8_jump_70 ?_
      refine xt_iald (13 + 0) mU_1 (by omega) (ne_add (a := 13) (b := 0) rfl rfl) (by decide) dX8_jump_71 ?_
      refine xt_top (congrArg Value.int (jnr (c := 13 + 0) (by omega) (by omega))) ?_
      refine xt_iast (13 + 0 + 4) mU_1 (by omega) (ne_add (a := 13 + 0) (b := 4) (ne_add (a := 13) (b := 0) rfl rfl) rfl) (by decide) dX8_jump_72 ?_
      refine xt_heq (mU_pr (c := 13 + 0 + 4) (by omega) (by omega)) ?_
      refine inc5 _ dX8_jump_73 rfl (by decide) rfl ?_
      refine xt_goto 46 dX8_jump_76 rfl ?_
      have e := jpR_s (W 0) m d
      rw [← hr1, show 4 * m - 1 - d = 0 by omega, show d + 1 = 4 * m by omega] at e
      rw [← e]
      exact ex _ int_m1
    | succ k1 ih =>
      intro d hd r1 hr1
      refine il5 dX8_jump_46 ?_
      refine xt_if_lt 79 dX8_jump_48 rfl (fun q => absurd q (nI_pos (by omega))) (fun _ => ?_)
      refine al0 dX8_jump_51 ?_
      refine g_X8_7 dX8_jump_52 mU_0 ?_
      refine xt_bipush (13) dX8_jump_55 rfl ?_
      refine il5 dX8_jump_57 ?_
      refine xt_iadd dX8_jump_59 ?_
      refine xt_iconst (4) dX8_jump_60 rfl ?_
      refine xt_iadd dX8_jump_61 ?_
      refine al0 dX8_jump_62 ?_
      refine g_X8_7 dX8_jump_63 mU_0 ?_
      refine xt_bipush (13) dX8_jump_66 rfl ?_
      refine il5 dX8_jump_68 ?_
      refine xt_iadd dX8_jump_70 ?_
      refine xt_iald (13 + (k1 + 1)) mU_1 (by omega) (ne_add (a := 13) (b := k1 + 1) rfl rfl) (by decide) dX8_jump_71 ?_
      refine xt_top (congrArg Value.int (jnr (c := 13 + (k1 + 1)) (by omega) (by omega))) ?_
      refine xt_iast (13 + (k1 + 1) + 4) mU_1 (by omega) (ne_add (a := 13 + (k1 + 1)) (b := 4) (ne_add (a := 13) (b := k1 + 1) rfl rfl) rfl) (by decide) dX8_jump_72 ?_
      refine xt_heq (mU_pr (c := 13 + (k1 + 1) + 4) (by omega) (by omega)) ?_
      refine inc5 (nI k1) dX8_jump_73 (nI_dec _) (by decide) rfl ?_
      refine xt_goto 46 dX8_jump_76 rfl ?_
      exact ih (d + 1) (by omega) _ (by rw [jpR_s, ← hr1, show 4 * m - 1 - d = k1 + 1 by omega])
  rcases Nat.eq_zero_or_pos m with h0 | h0
  · subst h0
    refine il1 dX8_jump_0 ?_
    refine il2 dX8_jump_1 ?_
    refine il3 dX8_jump_2 ?_
    refine il4 dX8_jump_3 ?_
    refine s_X8_154 dX8_jump_5 (cn_X8_isPiece _ _ _ _) ⟨lb rfl, lb rfl, lb rfl, lb rfl⟩ ?_
    refine xt_if_ne 14 dX8_jump_8 rfl (fun _ => ?_) (fun q => absurd q (fl1 hp0))
    refine al0 dX8_jump_14 ?_
    refine g_X8_7 dX8_jump_15 mU_0 ?_
    refine xt_bipush (12) dX8_jump_18 rfl ?_
    refine xt_iald (12) mU_1 (by omega) rfl (by decide) dX8_jump_20 ?_
    refine xt_top (congrArg Value.int (jnw (q := 0) (c := 12) (by omega) (by omega))) ?_
    refine xt_eqv (nI (0)) hm ?_
    refine xt_bipush (12) dX8_jump_21 rfl ?_
    refine xt_icmp_ne 29 dX8_jump_23 rfl (fun _ => ?_) (fun q => absurd q (by decide))
    refine al0 dX8_jump_29 ?_
    refine s_X8_165 dX8_jump_30 (cn_X8_minds u hu) mU_0 ⟨lb rfl, lb rfl, lb rfl, lb rfl⟩ ?_
    refine xt_heq (congrArg (fun z => (mU h M (nI (mdU u)) iu td aT nu ab be (jn z) tp mv rd ms mn la it tk)) (mdW_row W u)) ?_
    refine xt_iconst (4) dX8_jump_33 rfl ?_
    refine al0 dX8_jump_34 ?_
    refine g_X8_7 dX8_jump_35 mU_0 ?_
    refine xt_bipush (12) dX8_jump_38 rfl ?_
    refine xt_iald (12) mU_1 (by omega) rfl (by decide) dX8_jump_40 ?_
    refine xt_top (congrArg Value.int (jnr (c := 12) (by omega) (by omega))) ?_
    refine xt_eqv (nI (0)) hm ?_
    refine xt_imul dX8_jump_41 ?_
    refine xt_iconst (1) dX8_jump_42 rfl ?_
    refine xt_isub dX8_jump_43 ?_
    refine is5 dX8_jump_44 (by decide) rfl ?_
    exact ex _ (by decide)
  · refine il1 dX8_jump_0 ?_
    refine il2 dX8_jump_1 ?_
    refine il3 dX8_jump_2 ?_
    refine il4 dX8_jump_3 ?_
    refine s_X8_154 dX8_jump_5 (cn_X8_isPiece _ _ _ _) ⟨lb rfl, lb rfl, lb rfl, lb rfl⟩ ?_
    refine xt_if_ne 14 dX8_jump_8 rfl (fun _ => ?_) (fun q => absurd q (fl1 hp0))
    refine al0 dX8_jump_14 ?_
    refine g_X8_7 dX8_jump_15 mU_0 ?_
    refine xt_bipush (12) dX8_jump_18 rfl ?_
    refine xt_iald (12) mU_1 (by omega) rfl (by decide) dX8_jump_20 ?_
    refine xt_top (congrArg Value.int (jnw (q := 0) (c := 12) (by omega) (by omega))) ?_
    refine xt_eqv (nI (m)) hm ?_
    refine xt_bipush (12) dX8_jump_21 rfl ?_
    refine xt_icmp_ne 29 dX8_jump_23 rfl (fun _ => ?_) (fun q => absurd q (fun e => absurd ((nI_eq (a := m) (b := 12) (by omega) (by decide)).mp e) (by omega)))
    refine al0 dX8_jump_29 ?_
    refine s_X8_165 dX8_jump_30 (cn_X8_minds u hu) mU_0 ⟨lb rfl, lb rfl, lb rfl, lb rfl⟩ ?_
    refine xt_heq (congrArg (fun z => (mU h M (nI (mdU u)) iu td aT nu ab be (jn z) tp mv rd ms mn la it tk)) (mdW_row W u)) ?_
    refine xt_iconst (4) dX8_jump_33 rfl ?_
    refine al0 dX8_jump_34 ?_
    refine g_X8_7 dX8_jump_35 mU_0 ?_
    refine xt_bipush (12) dX8_jump_38 rfl ?_
    refine xt_iald (12) mU_1 (by omega) rfl (by decide) dX8_jump_40 ?_
    refine xt_top (congrArg Value.int (jnr (c := 12) (by omega) (by omega))) ?_
    refine xt_eqv (nI (m)) hm ?_
    refine xt_imul dX8_jump_41 ?_
    refine xt_iconst (1) dX8_jump_42 rfl ?_
    refine xt_isub dX8_jump_43 ?_
    refine xt_eqv (nI (4 * m - 1)) ((ne_sub (a := (4) * (m)) (b := 1) (ne_mul (a := 4) (b := m) rfl rfl) rfl (by omega)).trans (congrArg nI (by omega))) ?_
    refine is5 dX8_jump_44 (by decide) rfl ?_
    exact lp (4 * m - 1) 0 (by omega) _ rfl
set_option maxHeartbeats 400000 in
set_option maxRecDepth 100000 in
theorem cn_X8_stop_n {h : ax_H} {n : Nat} {M : Nat} {un iu td aT nu ab be : Int32} {tp mv rd ms mn la : Nat → Int32} {W : Nat → Nat → Int32} {it tk : Nat → Int64} (hn : ¬ 0 ≤ W 0 5) : ax_C yX8_stop cX8_stop 2 (some .int) 5 0 0 [.ref M] (mU h M un iu td aT nu ab be (jn W) tp mv rd ms mn la it tk) n (ki ((-1000002)) (mU h M un iu td aT nu ab be (jn W) tp mv rd ms mn la it tk) n) := by
  refine ax_C.go RX8 "stop" [some (.ref M), none] rfl rfl pn_X8 (lb rfl) rfl (fun l G cy bs => ?_)
  refine al0 dX8_stop_0 ?_
  refine g_X8_7 dX8_stop_1 mU_0 ?_
  refine xt_iconst (5) dX8_stop_4 rfl ?_
  refine xt_iald (5) mU_1 (by omega) rfl (by decide) dX8_stop_5 ?_
  refine xt_top (congrArg Value.int (jnw (q := 0) (c := 5) (by omega) (by omega))) ?_
  refine xt_if_ge 12 dX8_stop_6 rfl (fun q => absurd q hn) (fun _ => ?_)
  refine k_X8_172 dX8_stop_9 ?_
  exact xt_iret dX8_stop_11 rfl (lb rfl) (lb rfl) ⟨rfl, rfl, rfl⟩
set_option maxHeartbeats 400000 in
set_option maxRecDepth 100000 in
theorem cn_X8_stop {h : ax_H} {n : Nat} {M : Nat} {iu td aT nu ab be : Int32} {tp mv rd ms mn la : Nat → Int32} {W : Nat → Nat → Int32} {it tk : Nat → Int64} (u : Nat) (hu : u ≤ 6) (hn : 0 ≤ W 0 5) : ax_C yX8_stop cX8_stop 2 (some .int) 5 0 0 [.ref M] (mU h M (nI u) iu td aT nu ab be (jn W) tp mv rd ms mn la it tk) n (ki (sNow (W 0)) (mU h M (nI (mdU u)) iu td aT nu ab be (jn (va_up (mdW W u) 0 (upd (W 0) 5 (-1)))) tp mv rd ms mn la it tk) n) := by
  refine ax_C.go RX8 "stop" [some (.ref M), none] rfl rfl pn_X8 (lb rfl) rfl (fun l G cy bs => ?_)
  refine al0 dX8_stop_0 ?_
  refine g_X8_7 dX8_stop_1 mU_0 ?_
  refine xt_iconst (5) dX8_stop_4 rfl ?_
  refine xt_iald (5) mU_1 (by omega) rfl (by decide) dX8_stop_5 ?_
  refine xt_top (congrArg Value.int (jnw (q := 0) (c := 5) (by omega) (by omega))) ?_
  refine xt_if_ge 12 dX8_stop_6 rfl (fun _ => ?_) (fun q => absurd hn q)
  refine al0 dX8_stop_12 ?_
  refine s_X8_165 dX8_stop_13 (cn_X8_minds u hu) mU_0 ⟨lb rfl, lb rfl, lb rfl, lb rfl⟩ ?_
  refine xt_heq (congrArg (fun z => (mU h M (nI (mdU u)) iu td aT nu ab be (jn z) tp mv rd ms mn la it tk)) (mdW_row W u)) ?_
  refine al0 dX8_stop_16 ?_
  refine xt_iconst (0) dX8_stop_17 rfl ?_
  refine s_X8_80 dX8_stop_18 (cn_X8_stillNow (q := 0) (by omega)) mU_0 ⟨lb rfl, lb rfl, lb rfl, lb rfl⟩ ?_
  refine is1 dX8_stop_21 (by decide) rfl ?_
  refine al0 dX8_stop_22 ?_
  refine g_X8_7 dX8_stop_23 mU_0 ?_
  refine xt_iconst (5) dX8_stop_26 rfl ?_
  refine xt_iconst (-1) dX8_stop_27 rfl ?_
  refine xt_iast (5) mU_1 (by omega) rfl (by decide) dX8_stop_28 ?_
  refine xt_heq (mU_pr (c := 5) (by omega) (by omega)) ?_
  refine il1 dX8_stop_29 ?_
  exact xt_iret dX8_stop_30 rfl (lb rfl) (lb rfl) ⟨rfl, rfl, rfl⟩
set_option maxHeartbeats 400000 in
set_option maxRecDepth 100000 in
theorem cn_X8_hold {h : ax_H} {n : Nat} {M : Nat} {iu td aT nu ab be : Int32} {tp mv rd ms mn la : Nat → Int32} {W : Nat → Nat → Int32} {it tk : Nat → Int64} (u : Nat) (hu : u ≤ 6)  : ax_C yX8_hold cX8_hold 1 (some .int) 2 0 0 [.ref M] (mU h M (nI u) iu td aT nu ab be (jn W) tp mv rd ms mn la it tk) n (ki (1 - W 0 3) (mU h M (nI (mdU u)) iu td aT nu ab be (jn (va_up (mdW W u) 0 (upd (W 0) 3 (1 - W 0 3)))) tp mv rd ms mn la it tk) n) := by
  refine ax_C.go RX8 "hold" [some (.ref M)] rfl rfl pn_X8 (lb rfl) rfl (fun l G cy bs => ?_)
  refine al0 dX8_hold_0 ?_
  refine s_X8_165 dX8_hold_1 (cn_X8_minds u hu) mU_0 ⟨lb rfl, lb rfl, lb rfl, lb rfl⟩ ?_
  refine xt_heq (congrArg (fun z => (mU h M (nI (mdU u)) iu td aT nu ab be (jn z) tp mv rd ms mn la it tk)) (mdW_row W u)) ?_
  refine al0 dX8_hold_4 ?_
  refine g_X8_7 dX8_hold_5 mU_0 ?_
  refine xt_iconst (3) dX8_hold_8 rfl ?_
  refine xt_iconst (1) dX8_hold_9 rfl ?_
  refine al0 dX8_hold_10 ?_
  refine g_X8_7 dX8_hold_11 mU_0 ?_
  refine xt_iconst (3) dX8_hold_14 rfl ?_
  refine xt_iald (3) mU_1 (by omega) rfl (by decide) dX8_hold_15 ?_
  refine xt_top (congrArg Value.int (jnr (c := 3) (by omega) (by omega))) ?_
  refine xt_isub dX8_hold_16 ?_
  refine xt_iast (3) mU_1 (by omega) rfl (by decide) dX8_hold_17 ?_
  refine xt_heq (mU_pr (c := 3) (by omega) (by omega)) ?_
  refine al0 dX8_hold_18 ?_
  refine g_X8_7 dX8_hold_19 mU_0 ?_
  refine xt_iconst (3) dX8_hold_22 rfl ?_
  refine xt_iald (3) mU_1 (by omega) rfl (by decide) dX8_hold_23 ?_
  refine xt_top (congrArg Value.int (jnr (c := 3) (by omega) (by omega))) ?_
  exact xt_iret dX8_hold_24 rfl (lb rfl) (lb rfl) ⟨by simp [upd], rfl, rfl⟩
set_option maxHeartbeats 400000 in
set_option maxRecDepth 100000 in
theorem cn_X8_seed_b {h : ax_H} {n : Nat} {M : Nat} {un iu td aT nu ab be : Int32} {tp mv rd ms mn la : Nat → Int32} {W : Nat → Nat → Int32} {it tk : Nat → Int64} (x : Int32) (hx : ¬ 0 ≤ x) : ax_C yX8_seed cX8_seed 3 (some .int) 0 0 0 [.ref M, .int x] (mU h M un iu td aT nu ab be (jn W) tp mv rd ms mn la it tk) n (ki ((-1000001)) (mU h M un iu td aT nu ab be (jn W) tp mv rd ms mn la it tk) n) := by
  refine ax_C.go RX8 "seed" [some (.ref M), some (.int x), none] rfl rfl pn_X8 (lb rfl) rfl (fun l G cy bs => ?_)
  refine il1 dX8_seed_0 ?_
  refine xt_if_ge 7 dX8_seed_1 rfl (fun q => absurd q hx) (fun _ => ?_)
  refine k_X8_112 dX8_seed_4 ?_
  exact xt_iret dX8_seed_6 rfl (lb rfl) (lb rfl) ⟨rfl, rfl, rfl⟩
set_option maxHeartbeats 400000 in
set_option maxRecDepth 100000 in
theorem cn_X8_seed {h : ax_H} {n : Nat} {M : Nat} {un iu td aT nu ab be : Int32} {tp mv rd ms mn la : Nat → Int32} {W : Nat → Nat → Int32} {it tk : Nat → Int64} (x : Int32) (hx : 0 ≤ x) : ax_C yX8_seed cX8_seed 3 (some .int) 0 0 0 [.ref M, .int x] (mU h M un iu td aT nu ab be (jn W) tp mv rd ms mn la it tk) n (ki (W 0 4) (mU h M un iu td aT nu ab be (jn (va_up W 0 (upd (W 0) 4 x))) tp mv rd ms mn la it tk) n) := by
  refine ax_C.go RX8 "seed" [some (.ref M), some (.int x), none] rfl rfl pn_X8 (lb rfl) rfl (fun l G cy bs => ?_)
  refine il1 dX8_seed_0 ?_
  refine xt_if_ge 7 dX8_seed_1 rfl (fun _ => ?_) (fun q => absurd hx q)
  refine al0 dX8_seed_7 ?_
  refine g_X8_7 dX8_seed_8 mU_0 ?_
  refine xt_iconst (4) dX8_seed_11 rfl ?_
  refine xt_iald (4) mU_1 (by omega) rfl (by decide) dX8_seed_12 ?_
  refine xt_top (congrArg Value.int (jnw (q := 0) (c := 4) (by omega) (by omega))) ?_
  refine is2 dX8_seed_13 (by decide) rfl ?_
  refine al0 dX8_seed_14 ?_
  refine g_X8_7 dX8_seed_15 mU_0 ?_
  refine xt_iconst (4) dX8_seed_18 rfl ?_
  refine il1 dX8_seed_19 ?_
  refine xt_iast (4) mU_1 (by omega) rfl (by decide) dX8_seed_20 ?_
  refine xt_heq (mU_pw (q := 0) (c := 4) (by omega) (by omega)) ?_
  refine il2 dX8_seed_21 ?_
  exact xt_iret dX8_seed_22 rfl (lb rfl) (lb rfl) ⟨rfl, rfl, rfl⟩
set_option maxHeartbeats 400000 in
set_option maxRecDepth 100000 in
theorem cn_X8_undo_n {h : ax_H} {n : Nat} {M : Nat} {iu td aT nu ab be : Int32} {tp mv rd ms mn la : Nat → Int32} {W : Nat → Nat → Int32} {it tk : Nat → Int64}  : ax_C yX8_undo cX8_undo 1 (some .int) 1 0 0 [.ref M] (mU h M (nI 0) iu td aT nu ab be (jn W) tp mv rd ms mn la it tk) n (ki ((-1000004)) (mU h M (nI 0) iu td aT nu ab be (jn W) tp mv rd ms mn la it tk) n) := by
  refine ax_C.go RX8 "undo" [some (.ref M)] rfl rfl pn_X8 (lb rfl) rfl (fun l G cy bs => ?_)
  refine al0 dX8_undo_0 ?_
  refine g_X8_42 dX8_undo_1 mU_0 ?_
  refine xt_if_ne 10 dX8_undo_4 rfl (fun q => absurd rfl q) (fun _ => ?_)
  refine k_X8_115 dX8_undo_7 ?_
  exact xt_iret dX8_undo_9 rfl (lb rfl) (lb rfl) ⟨rfl, rfl, rfl⟩
set_option maxHeartbeats 400000 in
set_option maxRecDepth 100000 in
theorem cn_X8_undo {h : ax_H} {n : Nat} {M : Nat} {iu td aT nu ab be : Int32} {tp mv rd ms mn la : Nat → Int32} {W : Nat → Nat → Int32} {it tk : Nat → Int64} (u : Nat) (hu : u < 6) : ax_C yX8_undo cX8_undo 1 (some .int) 1 0 0 [.ref M] (mU h M (nI (u + 1)) iu td aT nu ab be (jn W) tp mv rd ms mn la it tk) n (ki (nI u) (mU h M (nI u) iu td aT nu ab be (jn (va_up W 0 (W (2 + u)))) tp mv rd ms mn la it tk) n) := by
  refine ax_C.go RX8 "undo" [some (.ref M)] rfl rfl pn_X8 (lb rfl) rfl (fun l G cy bs => ?_)
  refine al0 dX8_undo_0 ?_
  refine g_X8_42 dX8_undo_1 mU_0 ?_
  refine xt_if_ne 10 dX8_undo_4 rfl (fun _ => ?_) (fun q => absurd q (nI_ne0 (by omega) (by omega)))
  refine al0 dX8_undo_10 ?_
  refine xt_dup dX8_undo_11 rfl ?_
  refine g_X8_42 dX8_undo_12 mU_0 ?_
  refine xt_iconst (1) dX8_undo_15 rfl ?_
  refine xt_isub dX8_undo_16 ?_
  refine xt_eqv (nI (u)) (nI_pred _) ?_
  refine p_X8_42 dX8_undo_17 mU_0 ?_
  refine xt_heq mU_p0 ?_
  refine al0 dX8_undo_20 ?_
  refine xt_bipush (122) dX8_undo_21 rfl ?_
  refine xt_bipush (61) dX8_undo_23 rfl ?_
  refine al0 dX8_undo_25 ?_
  refine g_X8_42 dX8_undo_26 mU_0 ?_
  refine xt_imul dX8_undo_29 ?_
  refine xt_iadd dX8_undo_30 ?_
  refine xt_eqv (nI (61 * (2 + u))) ((ne_add (a := 122) (b := (61) * (u)) rfl (ne_mul (a := 61) (b := u) rfl rfl)).trans (congrArg nI (by omega))) ?_
  refine xt_iconst (0) dX8_undo_31 rfl ?_
  refine s_X8_45 dX8_undo_32 (cn_X8_copyRow (2 + u) 0 (by omega) (by omega) (by omega)) mU_0 ⟨lb rfl, lb rfl, lb rfl, lb rfl⟩ ?_
  refine al0 dX8_undo_35 ?_
  refine g_X8_42 dX8_undo_36 mU_0 ?_
  exact xt_iret dX8_undo_39 rfl (lb rfl) (lb rfl) ⟨rfl, rfl, rfl⟩
