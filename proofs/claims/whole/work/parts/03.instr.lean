section AXI
variable {l : Launch} {G : va_G} {cy : ax_Y} {b : Nat} {R : Room} {own nm : String} {cc : ByteArray} {nL : Nat} {ret : Option FieldType} {K : Option Value → ax_H → Nat → Prop} {mc ms pc : Nat} {lv : List (Option Value)} {st : List Value} {h : ax_H} {n cells slots : Nat}
theorem xt_iadd {x y : Int32} (hd : decode cc pc = .ok (.iadd, 1)) (k : ax_T l G cy b R own nm cc nL ret K mc ms (pc + 1) lv (.int (x + y) :: st) h n cells slots) : ax_T l G cy b R own nm cc nL ret K mc ms pc lv (.int y :: .int x :: st) h n cells slots := by
  intro p e s m args below meth c Q H locs ls E hK hR hRp hS hb hl
  exact lv_iadd E.1 E.2.1 hd (k p e s m args below meth c Q H locs ls E hK hR hRp hS hb hl)
theorem xt_isub {x y : Int32} (hd : decode cc pc = .ok (.isub, 1)) (k : ax_T l G cy b R own nm cc nL ret K mc ms (pc + 1) lv (.int (x - y) :: st) h n cells slots) : ax_T l G cy b R own nm cc nL ret K mc ms pc lv (.int y :: .int x :: st) h n cells slots := by
  intro p e s m args below meth c Q H locs ls E hK hR hRp hS hb hl
  exact lv_isub E.1 E.2.1 hd (k p e s m args below meth c Q H locs ls E hK hR hRp hS hb hl)
theorem xt_imul {x y : Int32} (hd : decode cc pc = .ok (.imul, 1)) (k : ax_T l G cy b R own nm cc nL ret K mc ms (pc + 1) lv (.int (x * y) :: st) h n cells slots) : ax_T l G cy b R own nm cc nL ret K mc ms pc lv (.int y :: .int x :: st) h n cells slots := by
  intro p e s m args below meth c Q H locs ls E hK hR hRp hS hb hl
  exact lv_imul E.1 E.2.1 hd (k p e s m args below meth c Q H locs ls E hK hR hRp hS hb hl)
theorem xt_iand {x y : Int32} (hd : decode cc pc = .ok (.iand, 1)) (k : ax_T l G cy b R own nm cc nL ret K mc ms (pc + 1) lv (.int (x &&& y) :: st) h n cells slots) : ax_T l G cy b R own nm cc nL ret K mc ms pc lv (.int y :: .int x :: st) h n cells slots := by
  intro p e s m args below meth c Q H locs ls E hK hR hRp hS hb hl
  exact lv_iand E.1 E.2.1 hd (k p e s m args below meth c Q H locs ls E hK hR hRp hS hb hl)
theorem xt_ior {x y : Int32} (hd : decode cc pc = .ok (.ior, 1)) (k : ax_T l G cy b R own nm cc nL ret K mc ms (pc + 1) lv (.int (x ||| y) :: st) h n cells slots) : ax_T l G cy b R own nm cc nL ret K mc ms pc lv (.int y :: .int x :: st) h n cells slots := by
  intro p e s m args below meth c Q H locs ls E hK hR hRp hS hb hl
  exact lv_ior E.1 E.2.1 hd (k p e s m args below meth c Q H locs ls E hK hR hRp hS hb hl)
theorem xt_ixor {x y : Int32} (hd : decode cc pc = .ok (.ixor, 1)) (k : ax_T l G cy b R own nm cc nL ret K mc ms (pc + 1) lv (.int (x ^^^ y) :: st) h n cells slots) : ax_T l G cy b R own nm cc nL ret K mc ms pc lv (.int y :: .int x :: st) h n cells slots := by
  intro p e s m args below meth c Q H locs ls E hK hR hRp hS hb hl
  exact lv_ixor E.1 E.2.1 hd (k p e s m args below meth c Q H locs ls E hK hR hRp hS hb hl)
theorem xt_ishl {x y : Int32} (hd : decode cc pc = .ok (.ishl, 1)) (k : ax_T l G cy b R own nm cc nL ret K mc ms (pc + 1) lv (.int (x <<< (y &&& 31)) :: st) h n cells slots) : ax_T l G cy b R own nm cc nL ret K mc ms pc lv (.int y :: .int x :: st) h n cells slots := by
  intro p e s m args below meth c Q H locs ls E hK hR hRp hS hb hl
  exact lv_ishl E.1 E.2.1 hd (k p e s m args below meth c Q H locs ls E hK hR hRp hS hb hl)
theorem xt_ishr {x y : Int32} (hd : decode cc pc = .ok (.ishr, 1)) (k : ax_T l G cy b R own nm cc nL ret K mc ms (pc + 1) lv (.int (x >>> (y &&& 31)) :: st) h n cells slots) : ax_T l G cy b R own nm cc nL ret K mc ms pc lv (.int y :: .int x :: st) h n cells slots := by
  intro p e s m args below meth c Q H locs ls E hK hR hRp hS hb hl
  exact lv_ishr E.1 E.2.1 hd (k p e s m args below meth c Q H locs ls E hK hR hRp hS hb hl)
theorem xt_idiv {x y : Int32} (hd : decode cc pc = .ok (.idiv, 1)) (hne : ¬ y = 0) (k : ax_T l G cy b R own nm cc nL ret K mc ms (pc + 1) lv (.int (x / y) :: st) h n cells slots) : ax_T l G cy b R own nm cc nL ret K mc ms pc lv (.int y :: .int x :: st) h n cells slots := by
  intro p e s m args below meth c Q H locs ls E hK hR hRp hS hb hl
  exact lv_idiv E.1 E.2.1 hd hne (k p e s m args below meth c Q H locs ls E hK hR hRp hS hb hl)
theorem xt_irem {x y : Int32} (hd : decode cc pc = .ok (.irem, 1)) (hne : ¬ y = 0) (k : ax_T l G cy b R own nm cc nL ret K mc ms (pc + 1) lv (.int (x - x / y * y) :: st) h n cells slots) : ax_T l G cy b R own nm cc nL ret K mc ms pc lv (.int y :: .int x :: st) h n cells slots := by
  intro p e s m args below meth c Q H locs ls E hK hR hRp hS hb hl
  exact lv_irem E.1 E.2.1 hd hne (k p e s m args below meth c Q H locs ls E hK hR hRp hS hb hl)
theorem xt_ineg {x : Int32} (hd : decode cc pc = .ok (.ineg, 1)) (k : ax_T l G cy b R own nm cc nL ret K mc ms (pc + 1) lv (.int (-x) :: st) h n cells slots) : ax_T l G cy b R own nm cc nL ret K mc ms pc lv (.int x :: st) h n cells slots := by
  intro p e s m args below meth c Q H locs ls E hK hR hRp hS hb hl
  exact lv_ineg E.1 E.2.1 hd (k p e s m args below meth c Q H locs ls E hK hR hRp hS hb hl)
theorem xt_iushr {x y : Int32} (hd : decode cc pc = .ok (.iushr, 1)) (k : ax_T l G cy b R own nm cc nL ret K mc ms (pc + 1) lv (.int (x.toUInt32 >>> (y.toUInt32 &&& Int32.toUInt32 31)).toInt32 :: st) h n cells slots) : ax_T l G cy b R own nm cc nL ret K mc ms pc lv (.int y :: .int x :: st) h n cells slots := by
  intro p e s m args below meth c Q H locs ls E hK hR hRp hS hb hl
  exact lv_iushr E.1 E.2.1 hd rfl (k p e s m args below meth c Q H locs ls E hK hR hRp hS hb hl)
theorem xt_ladd {x y : Int64} (hd : decode cc pc = .ok (.ladd, 1)) (k : ax_T l G cy b R own nm cc nL ret K mc ms (pc + 1) lv (.long (x + y) :: st) h n cells slots) : ax_T l G cy b R own nm cc nL ret K mc ms pc lv (.long y :: .long x :: st) h n cells slots := by
  intro p e s m args below meth c Q H locs ls E hK hR hRp hS hb hl
  exact lv_ladd E.1 E.2.1 hd (k p e s m args below meth c Q H locs ls E hK hR hRp hS hb hl)
theorem xt_lsub {x y : Int64} (hd : decode cc pc = .ok (.lsub, 1)) (k : ax_T l G cy b R own nm cc nL ret K mc ms (pc + 1) lv (.long (x - y) :: st) h n cells slots) : ax_T l G cy b R own nm cc nL ret K mc ms pc lv (.long y :: .long x :: st) h n cells slots := by
  intro p e s m args below meth c Q H locs ls E hK hR hRp hS hb hl
  exact lv_lsub E.1 E.2.1 hd (k p e s m args below meth c Q H locs ls E hK hR hRp hS hb hl)
theorem xt_lmul {x y : Int64} (hd : decode cc pc = .ok (.lmul, 1)) (k : ax_T l G cy b R own nm cc nL ret K mc ms (pc + 1) lv (.long (x * y) :: st) h n cells slots) : ax_T l G cy b R own nm cc nL ret K mc ms pc lv (.long y :: .long x :: st) h n cells slots := by
  intro p e s m args below meth c Q H locs ls E hK hR hRp hS hb hl
  exact lv_lmul E.1 E.2.1 hd (k p e s m args below meth c Q H locs ls E hK hR hRp hS hb hl)
theorem xt_land {x y : Int64} (hd : decode cc pc = .ok (.land, 1)) (k : ax_T l G cy b R own nm cc nL ret K mc ms (pc + 1) lv (.long (x &&& y) :: st) h n cells slots) : ax_T l G cy b R own nm cc nL ret K mc ms pc lv (.long y :: .long x :: st) h n cells slots := by
  intro p e s m args below meth c Q H locs ls E hK hR hRp hS hb hl
  exact lv_land E.1 E.2.1 hd (k p e s m args below meth c Q H locs ls E hK hR hRp hS hb hl)
theorem xt_lor {x y : Int64} (hd : decode cc pc = .ok (.lor, 1)) (k : ax_T l G cy b R own nm cc nL ret K mc ms (pc + 1) lv (.long (x ||| y) :: st) h n cells slots) : ax_T l G cy b R own nm cc nL ret K mc ms pc lv (.long y :: .long x :: st) h n cells slots := by
  intro p e s m args below meth c Q H locs ls E hK hR hRp hS hb hl
  exact lv_lor E.1 E.2.1 hd (k p e s m args below meth c Q H locs ls E hK hR hRp hS hb hl)
theorem xt_ldiv {x y : Int64} (hd : decode cc pc = .ok (.ldiv, 1)) (hne : ¬ y = 0) (k : ax_T l G cy b R own nm cc nL ret K mc ms (pc + 1) lv (.long (x / y) :: st) h n cells slots) : ax_T l G cy b R own nm cc nL ret K mc ms pc lv (.long y :: .long x :: st) h n cells slots := by
  intro p e s m args below meth c Q H locs ls E hK hR hRp hS hb hl
  exact lv_ldiv E.1 E.2.1 hd hne (k p e s m args below meth c Q H locs ls E hK hR hRp hS hb hl)
theorem xt_lrem {x y : Int64} (hd : decode cc pc = .ok (.lrem, 1)) (hne : ¬ y = 0) (k : ax_T l G cy b R own nm cc nL ret K mc ms (pc + 1) lv (.long (x - x / y * y) :: st) h n cells slots) : ax_T l G cy b R own nm cc nL ret K mc ms pc lv (.long y :: .long x :: st) h n cells slots := by
  intro p e s m args below meth c Q H locs ls E hK hR hRp hS hb hl
  exact lv_lrem E.1 E.2.1 hd hne (k p e s m args below meth c Q H locs ls E hK hR hRp hS hb hl)
theorem xt_lshl {x : Int64} {y : Int32} (hd : decode cc pc = .ok (.lshl, 1)) (k : ax_T l G cy b R own nm cc nL ret K mc ms (pc + 1) lv (.long (x <<< (y.toInt64 &&& 63)) :: st) h n cells slots) : ax_T l G cy b R own nm cc nL ret K mc ms pc lv (.int y :: .long x :: st) h n cells slots := by
  intro p e s m args below meth c Q H locs ls E hK hR hRp hS hb hl
  exact lv_lshl E.1 E.2.1 hd rfl (k p e s m args below meth c Q H locs ls E hK hR hRp hS hb hl)
theorem xt_i2l {x : Int32} (hd : decode cc pc = .ok (.i2l, 1)) (k : ax_T l G cy b R own nm cc nL ret K mc ms (pc + 1) lv (.long (x.toInt64) :: st) h n cells slots) : ax_T l G cy b R own nm cc nL ret K mc ms pc lv (.int x :: st) h n cells slots := by
  intro p e s m args below meth c Q H locs ls E hK hR hRp hS hb hl
  exact lv_i2l E.1 E.2.1 hd rfl (k p e s m args below meth c Q H locs ls E hK hR hRp hS hb hl)
theorem xt_l2i {x : Int64} (hd : decode cc pc = .ok (.l2i, 1)) (k : ax_T l G cy b R own nm cc nL ret K mc ms (pc + 1) lv (.int (x.toInt32) :: st) h n cells slots) : ax_T l G cy b R own nm cc nL ret K mc ms pc lv (.long x :: st) h n cells slots := by
  intro p e s m args below meth c Q H locs ls E hK hR hRp hS hb hl
  exact lv_l2i E.1 E.2.1 hd rfl (k p e s m args below meth c Q H locs ls E hK hR hRp hS hb hl)
theorem xt_i2b {x : Int32} (hd : decode cc pc = .ok (.i2b, 1)) (k : ax_T l G cy b R own nm cc nL ret K mc ms (pc + 1) lv (.int (x.toInt8.toInt32) :: st) h n cells slots) : ax_T l G cy b R own nm cc nL ret K mc ms pc lv (.int x :: st) h n cells slots := by
  intro p e s m args below meth c Q H locs ls E hK hR hRp hS hb hl
  exact lv_i2b E.1 E.2.1 hd rfl (k p e s m args below meth c Q H locs ls E hK hR hRp hS hb hl)
theorem xt_i2s {x : Int32} (hd : decode cc pc = .ok (.i2s, 1)) (k : ax_T l G cy b R own nm cc nL ret K mc ms (pc + 1) lv (.int (x.toInt16.toInt32) :: st) h n cells slots) : ax_T l G cy b R own nm cc nL ret K mc ms pc lv (.int x :: st) h n cells slots := by
  intro p e s m args below meth c Q H locs ls E hK hR hRp hS hb hl
  exact lv_i2s E.1 E.2.1 hd rfl (k p e s m args below meth c Q H locs ls E hK hR hRp hS hb hl)
theorem xt_i2c {x : Int32} (hd : decode cc pc = .ok (.i2c, 1)) (k : ax_T l G cy b R own nm cc nL ret K mc ms (pc + 1) lv (.int ((x.toUInt32 % 65536).toInt32) :: st) h n cells slots) : ax_T l G cy b R own nm cc nL ret K mc ms pc lv (.int x :: st) h n cells slots := by
  intro p e s m args below meth c Q H locs ls E hK hR hRp hS hb hl
  exact lv_i2c E.1 E.2.1 hd rfl (k p e s m args below meth c Q H locs ls E hK hR hRp hS hb hl)
theorem xt_lcmp {x y : Int64} (hd : decode cc pc = .ok (.lcmp, 1)) (k : ax_T l G cy b R own nm cc nL ret K mc ms (pc + 1) lv (.int (lg_cmp x y) :: st) h n cells slots) : ax_T l G cy b R own nm cc nL ret K mc ms pc lv (.long y :: .long x :: st) h n cells slots := by
  intro p e s m args below meth c Q H locs ls E hK hR hRp hS hb hl
  exact W.lcmp E.1 E.2.1 hd (k p e s m args below meth c Q H locs ls E hK hR hRp hS hb hl)
theorem xt_dup {v : Value} (hd : decode cc pc = .ok (.dup, 1)) (hc : v.category = 1) (k : ax_T l G cy b R own nm cc nL ret K mc ms (pc + 1) lv (v :: v :: st) h n cells slots) : ax_T l G cy b R own nm cc nL ret K mc ms pc lv (v :: st) h n cells slots := by
  intro p e s m args below meth c Q H locs ls E hK hR hRp hS hb hl
  exact lv_dup E.1 E.2.1 hd (by rw [ax_vcat']; exact hc) (k p e s m args below meth c Q H locs ls E hK hR hRp hS hb hl)
theorem xt_pop {v : Value} (hd : decode cc pc = .ok (.pop, 1)) (hc : v.category = 1) (k : ax_T l G cy b R own nm cc nL ret K mc ms (pc + 1) lv st h n cells slots) : ax_T l G cy b R own nm cc nL ret K mc ms pc lv (v :: st) h n cells slots := by
  intro p e s m args below meth c Q H locs ls E hK hR hRp hS hb hl
  exact lv_pop E.1 E.2.1 hd (by rw [ax_vcat']; exact hc) (k p e s m args below meth c Q H locs ls E hK hR hRp hS hb hl)
theorem xt_dup2 {v w : Value} (hd : decode cc pc = .ok (.dup2, 1)) (hc : v.category = 1) (hc2 : w.category = 1) (k : ax_T l G cy b R own nm cc nL ret K mc ms (pc + 1) lv (v :: w :: v :: w :: st) h n cells slots) : ax_T l G cy b R own nm cc nL ret K mc ms pc lv (v :: w :: st) h n cells slots := by
  intro p e s m args below meth c Q H locs ls E hK hR hRp hS hb hl
  exact lv_dup2_11 E.1 E.2.1 hd (by rw [ax_vcat']; exact hc) (by rw [ax_vcat']; exact hc2) (k p e s m args below meth c Q H locs ls E hK hR hRp hS hb hl)
theorem xt_iconst (v : Int32) {z : Int} (hd : decode cc pc = .ok (.iconst z, 1)) (hv : Int32.ofInt z = v) (k : ax_T l G cy b R own nm cc nL ret K mc ms (pc + 1) lv (.int v :: st) h n cells slots) : ax_T l G cy b R own nm cc nL ret K mc ms pc lv st h n cells slots := by
  intro p e s m args below meth c Q H locs ls E hK hR hRp hS hb hl
  exact lv_iconst E.1 E.2.1 hd hv (k p e s m args below meth c Q H locs ls E hK hR hRp hS hb hl)
theorem xt_bipush (v : Int32) {z : Int} (hd : decode cc pc = .ok (.bipush z, 2)) (hv : (Int8.ofInt z).toInt32 = v) (k : ax_T l G cy b R own nm cc nL ret K mc ms (pc + 2) lv (.int v :: st) h n cells slots) : ax_T l G cy b R own nm cc nL ret K mc ms pc lv st h n cells slots := by
  intro p e s m args below meth c Q H locs ls E hK hR hRp hS hb hl
  exact lv_bipush E.1 E.2.1 hd hv (k p e s m args below meth c Q H locs ls E hK hR hRp hS hb hl)
theorem xt_sipush (v : Int32) {z : Int} (hd : decode cc pc = .ok (.sipush z, 3)) (hv : (Int16.ofInt z).toInt32 = v) (k : ax_T l G cy b R own nm cc nL ret K mc ms (pc + 3) lv (.int v :: st) h n cells slots) : ax_T l G cy b R own nm cc nL ret K mc ms pc lv st h n cells slots := by
  intro p e s m args below meth c Q H locs ls E hK hR hRp hS hb hl
  exact lv_sipush E.1 E.2.1 hd hv (k p e s m args below meth c Q H locs ls E hK hR hRp hS hb hl)
theorem xt_lconst (v : Int64) {z : Fin 2} (hd : decode cc pc = .ok (.lconst z, 1)) (hv : Int64.ofNat (z : Nat) = v) (k : ax_T l G cy b R own nm cc nL ret K mc ms (pc + 1) lv (.long v :: st) h n cells slots) : ax_T l G cy b R own nm cc nL ret K mc ms pc lv st h n cells slots := by
  intro p e s m args below meth c Q H locs ls E hK hR hRp hS hb hl
  exact lv_lconst E.1 E.2.1 hd hv (k p e s m args below meth c Q H locs ls E hK hR hRp hS hb hl)
theorem xt_ldc {ix : Nat} (v : Int32) (hw : Cond.constant own ix v ∈ ax_Tb) (hd : decode cc pc = .ok (.ldc ix, 2)) (k : ax_T l G cy b R own nm cc nL ret K mc ms (pc + 2) lv (.int v :: st) h n cells slots) : ax_T l G cy b R own nm cc nL ret K mc ms pc lv st h n cells slots := by
  intro p e s m args below meth c Q H locs ls E hK hR hRp hS hb hl
  exact lv_ldc E.1 E.2.1 E.2.2.2.1 (E.2.2.2.2.1 _ hw) hd (k p e s m args below meth c Q H locs ls E hK hR hRp hS hb hl)
theorem xt_ldc_w {ix : Nat} (v : Int32) (hw : Cond.constant own ix v ∈ ax_Tb) (hd : decode cc pc = .ok (.ldc_w ix, 3)) (k : ax_T l G cy b R own nm cc nL ret K mc ms (pc + 3) lv (.int v :: st) h n cells slots) : ax_T l G cy b R own nm cc nL ret K mc ms pc lv st h n cells slots := by
  intro p e s m args below meth c Q H locs ls E hK hR hRp hS hb hl
  exact lv_ldcw E.1 E.2.1 E.2.2.2.1 (E.2.2.2.2.1 _ hw) hd (k p e s m args below meth c Q H locs ls E hK hR hRp hS hb hl)
theorem xt_ldc2_w {ix : Nat} (v : Int64) (hw : Cond.constantLong own ix v ∈ ax_Tb) (hd : decode cc pc = .ok (.ldc2_w ix, 3)) (k : ax_T l G cy b R own nm cc nL ret K mc ms (pc + 3) lv (.long v :: st) h n cells slots) : ax_T l G cy b R own nm cc nL ret K mc ms pc lv st h n cells slots := by
  intro p e s m args below meth c Q H locs ls E hK hR hRp hS hb hl
  exact lv_ldc2 E.1 E.2.1 E.2.2.2.1 (E.2.2.2.2.1 _ hw) hd (k p e s m args below meth c Q H locs ls E hK hR hRp hS hb hl)
theorem xt_iload_n {k : Fin 4} {i : Nat} {x : Int32} (hd : decode cc pc = .ok (.iload_n k, 1)) (hi : (k : Nat) = i) (hx : lv[i]? = some (some (.int x))) (kk : ax_T l G cy b R own nm cc nL ret K mc ms (pc + 1) lv (.int x :: st) h n cells slots) : ax_T l G cy b R own nm cc nL ret K mc ms pc lv st h n cells slots := by
  intro p e s m args below meth c Q H locs ls E hK hR hRp hS hb hl
  exact lv_iload_n E.1 E.2.1 hd hi (hl.2.2 i _ hx) (kk p e s m args below meth c Q H locs ls E hK hR hRp hS hb hl)
theorem xt_iload {i : Nat} {x : Int32} (hd : decode cc pc = .ok (.iload i, 2)) (hx : lv[i]? = some (some (.int x))) (kk : ax_T l G cy b R own nm cc nL ret K mc ms (pc + 2) lv (.int x :: st) h n cells slots) : ax_T l G cy b R own nm cc nL ret K mc ms pc lv st h n cells slots := by
  intro p e s m args below meth c Q H locs ls E hK hR hRp hS hb hl
  exact lv_iload E.1 E.2.1 hd (hl.2.2 i _ hx) (kk p e s m args below meth c Q H locs ls E hK hR hRp hS hb hl)
theorem xt_lload_n {k : Fin 4} {i : Nat} {x : Int64} (hd : decode cc pc = .ok (.lload_n k, 1)) (hi : (k : Nat) = i) (hx : lv[i]? = some (some (.long x))) (kk : ax_T l G cy b R own nm cc nL ret K mc ms (pc + 1) lv (.long x :: st) h n cells slots) : ax_T l G cy b R own nm cc nL ret K mc ms pc lv st h n cells slots := by
  intro p e s m args below meth c Q H locs ls E hK hR hRp hS hb hl
  exact lv_lload_n E.1 E.2.1 hd hi (hl.2.2 i _ hx) (kk p e s m args below meth c Q H locs ls E hK hR hRp hS hb hl)
theorem xt_lload {i : Nat} {x : Int64} (hd : decode cc pc = .ok (.lload i, 2)) (hx : lv[i]? = some (some (.long x))) (kk : ax_T l G cy b R own nm cc nL ret K mc ms (pc + 2) lv (.long x :: st) h n cells slots) : ax_T l G cy b R own nm cc nL ret K mc ms pc lv st h n cells slots := by
  intro p e s m args below meth c Q H locs ls E hK hR hRp hS hb hl
  exact lv_lload E.1 E.2.1 hd (hl.2.2 i _ hx) (kk p e s m args below meth c Q H locs ls E hK hR hRp hS hb hl)
theorem xt_aload_n {k : Fin 4} {i : Nat} {x : Nat} (hd : decode cc pc = .ok (.aload_n k, 1)) (hi : (k : Nat) = i) (hx : lv[i]? = some (some (.ref x))) (kk : ax_T l G cy b R own nm cc nL ret K mc ms (pc + 1) lv (.ref x :: st) h n cells slots) : ax_T l G cy b R own nm cc nL ret K mc ms pc lv st h n cells slots := by
  intro p e s m args below meth c Q H locs ls E hK hR hRp hS hb hl
  exact lv_aload_n E.1 E.2.1 hd hi (hl.2.2 i _ hx) (kk p e s m args below meth c Q H locs ls E hK hR hRp hS hb hl)
theorem xt_aload {i : Nat} {x : Nat} (hd : decode cc pc = .ok (.aload i, 2)) (hx : lv[i]? = some (some (.ref x))) (kk : ax_T l G cy b R own nm cc nL ret K mc ms (pc + 2) lv (.ref x :: st) h n cells slots) : ax_T l G cy b R own nm cc nL ret K mc ms pc lv st h n cells slots := by
  intro p e s m args below meth c Q H locs ls E hK hR hRp hS hb hl
  exact lv_aload E.1 E.2.1 hd (hl.2.2 i _ hx) (kk p e s m args below meth c Q H locs ls E hK hR hRp hS hb hl)
theorem xt_aload_nR {k : Fin 4} {i : Nat} {x : Nat} (hd : decode cc pc = .ok (.aload_n k, 1)) (hi : (k : Nat) = i) (hx : lv[i]? = some (some (.retAddr x))) (kk : ax_T l G cy b R own nm cc nL ret K mc ms (pc + 1) lv (.retAddr x :: st) h n cells slots) : ax_T l G cy b R own nm cc nL ret K mc ms pc lv st h n cells slots := by
  intro p e s m args below meth c Q H locs ls E hK hR hRp hS hb hl
  exact lv_aload_n E.1 E.2.1 hd hi (hl.2.2 i _ hx) (kk p e s m args below meth c Q H locs ls E hK hR hRp hS hb hl)
theorem xt_istore_n {k : Fin 4} {i : Nat} {x : Int32} (hd : decode cc pc = .ok (.istore_n k, 1)) (hi : (k : Nat) = i) (hn : i < nL) (ho : ax_okst lv i = true) (kk : ax_T l G cy b R own nm cc nL ret K mc ms (pc + 1) (lv.set i (some (.int x))) st h n cells slots) : ax_T l G cy b R own nm cc nL ret K mc ms pc lv (.int x :: st) h n cells slots := by
  intro p e s m args below meth c Q H locs ls E hK hR hRp hS hb hl
  exact lv_istore_n E.1 E.2.1 hd hi hl.has hn rfl (fun ls' hl' => kk p e s m args below meth c Q H locs ls' E hK hR hRp hS hb  (ax_st1 (v := .int x) ho hl'))
theorem xt_istore {i : Nat} {x : Int32} (hd : decode cc pc = .ok (.istore i, 2)) (hn : i < nL) (ho : ax_okst lv i = true) (kk : ax_T l G cy b R own nm cc nL ret K mc ms (pc + 2) (lv.set i (some (.int x))) st h n cells slots) : ax_T l G cy b R own nm cc nL ret K mc ms pc lv (.int x :: st) h n cells slots := by
  intro p e s m args below meth c Q H locs ls E hK hR hRp hS hb hl
  exact lv_istore E.1 E.2.1 hd hl.has hn rfl (fun ls' hl' => kk p e s m args below meth c Q H locs ls' E hK hR hRp hS hb  (ax_st1 (v := .int x) ho hl'))
theorem xt_astore_n {k : Fin 4} {i : Nat} {x : Nat} (hd : decode cc pc = .ok (.astore_n k, 1)) (hi : (k : Nat) = i) (hn : i < nL) (ho : ax_okst lv i = true) (kk : ax_T l G cy b R own nm cc nL ret K mc ms (pc + 1) (lv.set i (some (.ref x))) st h n cells slots) : ax_T l G cy b R own nm cc nL ret K mc ms pc lv (.ref x :: st) h n cells slots := by
  intro p e s m args below meth c Q H locs ls E hK hR hRp hS hb hl
  exact lv_astore_n E.1 E.2.1 hd hi hl.has hn rfl (fun ls' hl' => kk p e s m args below meth c Q H locs ls' E hK hR hRp hS hb  (ax_st1 (v := .ref x) ho hl'))
theorem xt_astore {i : Nat} {x : Nat} (hd : decode cc pc = .ok (.astore i, 2)) (hn : i < nL) (ho : ax_okst lv i = true) (kk : ax_T l G cy b R own nm cc nL ret K mc ms (pc + 2) (lv.set i (some (.ref x))) st h n cells slots) : ax_T l G cy b R own nm cc nL ret K mc ms pc lv (.ref x :: st) h n cells slots := by
  intro p e s m args below meth c Q H locs ls E hK hR hRp hS hb hl
  exact lv_astore E.1 E.2.1 hd hl.has hn rfl (fun ls' hl' => kk p e s m args below meth c Q H locs ls' E hK hR hRp hS hb  (ax_st1 (v := .ref x) ho hl'))
theorem xt_lstore_n {k : Fin 4} {i : Nat} {x : Int64} (hd : decode cc pc = .ok (.lstore_n k, 1)) (hi : (k : Nat) = i) (hn : i + 1 < nL) (ho : ax_okst lv i = true) (kk : ax_T l G cy b R own nm cc nL ret K mc ms (pc + 1) ((lv.set i (some (.long x))).set (i + 1) none) st h n cells slots) : ax_T l G cy b R own nm cc nL ret K mc ms pc lv (.long x :: st) h n cells slots := by
  intro p e s m args below meth c Q H locs ls E hK hR hRp hS hb hl
  exact lv_lstore_n E.1 E.2.1 hd hi hl.has hn rfl (fun ls' hl' => kk p e s m args below meth c Q H locs ls' E hK hR hRp hS hb  (ax_st2 (v := .long x) ho hl'))
theorem xt_lstore {i : Nat} {x : Int64} (hd : decode cc pc = .ok (.lstore i, 2)) (hn : i + 1 < nL) (ho : ax_okst lv i = true) (kk : ax_T l G cy b R own nm cc nL ret K mc ms (pc + 2) ((lv.set i (some (.long x))).set (i + 1) none) st h n cells slots) : ax_T l G cy b R own nm cc nL ret K mc ms pc lv (.long x :: st) h n cells slots := by
  intro p e s m args below meth c Q H locs ls E hK hR hRp hS hb hl
  exact lv_lstore E.1 E.2.1 hd hl.has hn rfl (fun ls' hl' => kk p e s m args below meth c Q H locs ls' E hK hR hRp hS hb  (ax_st2 (v := .long x) ho hl'))
theorem ax_ix {b : Nat} {lv : List (Option Value)} {i : Nat} {v : Value} (h : lv[i]? = some (some v)) : ∃ k : Nat, (ax_asc b lv)[k]? = some (i, ax_v b v) := by
  obtain ⟨k, hk, h2⟩ := List.getElem_of_mem (ax_asc_mem.mpr ⟨v, h, rfl⟩ : (i, ax_v b v) ∈ ax_asc b lv)
  exact ⟨k, by rw [List.getElem?_eq_getElem hk, h2]⟩
theorem xt_iinc {i : Nat} {x : Int32} {z : Int} (v : Int32) (hd : decode cc pc = .ok (.iinc i z, 3)) (hx : lv[i]? = some (some (.int x))) (hv : x + Int32.ofInt z = v) (hn : i < nL) (ho : ax_okst lv i = true) (kk : ax_T l G cy b R own nm cc nL ret K mc ms (pc + 3) (lv.set i (some (.int v))) st h n cells slots) : ax_T l G cy b R own nm cc nL ret K mc ms pc lv st h n cells slots := by
  intro p e s m args below meth c Q H locs ls E hK hR hRp hS hb hl
  obtain ⟨j, hj⟩ := ax_ix (b := b) hx
  exact lv_iinc (v := v) E.1 E.2.1 hd hl.has hj hv hn rfl (fun ls' hl' => kk p e s m args below meth c Q H locs ls' E hK hR hRp hS hb  (ax_st1 (v := .int v) ho hl'))
theorem xt_if_eq {x : Int32} {off : Int} (tgt : Nat) (hd : decode cc pc = .ok (.ifCond .eq off, 3)) (ht : (pc : Int) + off = (tgt : Int)) (kt : x = 0 → ax_T l G cy b R own nm cc nL ret K mc ms tgt lv st h n cells slots) (kf : ¬ x = 0 → ax_T l G cy b R own nm cc nL ret K mc ms (pc + 3) lv st h n cells slots) : ax_T l G cy b R own nm cc nL ret K mc ms pc lv (.int x :: st) h n cells slots := by
  intro p e s m args below meth c Q H locs ls E hK hR hRp hS hb hl
  exact lv_if_eq E.1 E.2.1 hd ht (fun q => kt q p e s m args below meth c Q H locs ls E hK hR hRp hS hb hl) (fun q => kf q p e s m args below meth c Q H locs ls E hK hR hRp hS hb hl)
theorem xt_icmp_eq {x y : Int32} {off : Int} (tgt : Nat) (hd : decode cc pc = .ok (.if_icmp .eq off, 3)) (ht : (pc : Int) + off = (tgt : Int)) (kt : x = y → ax_T l G cy b R own nm cc nL ret K mc ms tgt lv st h n cells slots) (kf : ¬ x = y → ax_T l G cy b R own nm cc nL ret K mc ms (pc + 3) lv st h n cells slots) : ax_T l G cy b R own nm cc nL ret K mc ms pc lv (.int y :: .int x :: st) h n cells slots := by
  intro p e s m args below meth c Q H locs ls E hK hR hRp hS hb hl
  exact lv_icmp_eq E.1 E.2.1 hd ht (fun q => kt q p e s m args below meth c Q H locs ls E hK hR hRp hS hb hl) (fun q => kf q p e s m args below meth c Q H locs ls E hK hR hRp hS hb hl)
theorem xt_if_ne {x : Int32} {off : Int} (tgt : Nat) (hd : decode cc pc = .ok (.ifCond .ne off, 3)) (ht : (pc : Int) + off = (tgt : Int)) (kt : ¬ x = 0 → ax_T l G cy b R own nm cc nL ret K mc ms tgt lv st h n cells slots) (kf : x = 0 → ax_T l G cy b R own nm cc nL ret K mc ms (pc + 3) lv st h n cells slots) : ax_T l G cy b R own nm cc nL ret K mc ms pc lv (.int x :: st) h n cells slots := by
  intro p e s m args below meth c Q H locs ls E hK hR hRp hS hb hl
  exact lv_if_ne E.1 E.2.1 hd ht (fun q => kt q p e s m args below meth c Q H locs ls E hK hR hRp hS hb hl) (fun q => kf q p e s m args below meth c Q H locs ls E hK hR hRp hS hb hl)
theorem xt_icmp_ne {x y : Int32} {off : Int} (tgt : Nat) (hd : decode cc pc = .ok (.if_icmp .ne off, 3)) (ht : (pc : Int) + off = (tgt : Int)) (kt : ¬ x = y → ax_T l G cy b R own nm cc nL ret K mc ms tgt lv st h n cells slots) (kf : x = y → ax_T l G cy b R own nm cc nL ret K mc ms (pc + 3) lv st h n cells slots) : ax_T l G cy b R own nm cc nL ret K mc ms pc lv (.int y :: .int x :: st) h n cells slots := by
  intro p e s m args below meth c Q H locs ls E hK hR hRp hS hb hl
  exact lv_icmp_ne E.1 E.2.1 hd ht (fun q => kt q p e s m args below meth c Q H locs ls E hK hR hRp hS hb hl) (fun q => kf q p e s m args below meth c Q H locs ls E hK hR hRp hS hb hl)
theorem xt_if_lt {x : Int32} {off : Int} (tgt : Nat) (hd : decode cc pc = .ok (.ifCond .lt off, 3)) (ht : (pc : Int) + off = (tgt : Int)) (kt : x < 0 → ax_T l G cy b R own nm cc nL ret K mc ms tgt lv st h n cells slots) (kf : ¬ x < 0 → ax_T l G cy b R own nm cc nL ret K mc ms (pc + 3) lv st h n cells slots) : ax_T l G cy b R own nm cc nL ret K mc ms pc lv (.int x :: st) h n cells slots := by
  intro p e s m args below meth c Q H locs ls E hK hR hRp hS hb hl
  exact lv_if_lt E.1 E.2.1 hd ht (fun q => kt q p e s m args below meth c Q H locs ls E hK hR hRp hS hb hl) (fun q => kf q p e s m args below meth c Q H locs ls E hK hR hRp hS hb hl)
theorem xt_icmp_lt {x y : Int32} {off : Int} (tgt : Nat) (hd : decode cc pc = .ok (.if_icmp .lt off, 3)) (ht : (pc : Int) + off = (tgt : Int)) (kt : x < y → ax_T l G cy b R own nm cc nL ret K mc ms tgt lv st h n cells slots) (kf : ¬ x < y → ax_T l G cy b R own nm cc nL ret K mc ms (pc + 3) lv st h n cells slots) : ax_T l G cy b R own nm cc nL ret K mc ms pc lv (.int y :: .int x :: st) h n cells slots := by
  intro p e s m args below meth c Q H locs ls E hK hR hRp hS hb hl
  exact lv_icmp_lt E.1 E.2.1 hd ht (fun q => kt q p e s m args below meth c Q H locs ls E hK hR hRp hS hb hl) (fun q => kf q p e s m args below meth c Q H locs ls E hK hR hRp hS hb hl)
theorem xt_if_ge {x : Int32} {off : Int} (tgt : Nat) (hd : decode cc pc = .ok (.ifCond .ge off, 3)) (ht : (pc : Int) + off = (tgt : Int)) (kt : 0 ≤ x → ax_T l G cy b R own nm cc nL ret K mc ms tgt lv st h n cells slots) (kf : ¬ 0 ≤ x → ax_T l G cy b R own nm cc nL ret K mc ms (pc + 3) lv st h n cells slots) : ax_T l G cy b R own nm cc nL ret K mc ms pc lv (.int x :: st) h n cells slots := by
  intro p e s m args below meth c Q H locs ls E hK hR hRp hS hb hl
  exact lv_if_ge E.1 E.2.1 hd ht (fun q => kt q p e s m args below meth c Q H locs ls E hK hR hRp hS hb hl) (fun q => kf q p e s m args below meth c Q H locs ls E hK hR hRp hS hb hl)
theorem xt_icmp_ge {x y : Int32} {off : Int} (tgt : Nat) (hd : decode cc pc = .ok (.if_icmp .ge off, 3)) (ht : (pc : Int) + off = (tgt : Int)) (kt : y ≤ x → ax_T l G cy b R own nm cc nL ret K mc ms tgt lv st h n cells slots) (kf : ¬ y ≤ x → ax_T l G cy b R own nm cc nL ret K mc ms (pc + 3) lv st h n cells slots) : ax_T l G cy b R own nm cc nL ret K mc ms pc lv (.int y :: .int x :: st) h n cells slots := by
  intro p e s m args below meth c Q H locs ls E hK hR hRp hS hb hl
  exact lv_icmp_ge E.1 E.2.1 hd ht (fun q => kt q p e s m args below meth c Q H locs ls E hK hR hRp hS hb hl) (fun q => kf q p e s m args below meth c Q H locs ls E hK hR hRp hS hb hl)
theorem xt_if_gt {x : Int32} {off : Int} (tgt : Nat) (hd : decode cc pc = .ok (.ifCond .gt off, 3)) (ht : (pc : Int) + off = (tgt : Int)) (kt : 0 < x → ax_T l G cy b R own nm cc nL ret K mc ms tgt lv st h n cells slots) (kf : ¬ 0 < x → ax_T l G cy b R own nm cc nL ret K mc ms (pc + 3) lv st h n cells slots) : ax_T l G cy b R own nm cc nL ret K mc ms pc lv (.int x :: st) h n cells slots := by
  intro p e s m args below meth c Q H locs ls E hK hR hRp hS hb hl
  exact lv_if_gt E.1 E.2.1 hd ht (fun q => kt q p e s m args below meth c Q H locs ls E hK hR hRp hS hb hl) (fun q => kf q p e s m args below meth c Q H locs ls E hK hR hRp hS hb hl)
theorem xt_icmp_gt {x y : Int32} {off : Int} (tgt : Nat) (hd : decode cc pc = .ok (.if_icmp .gt off, 3)) (ht : (pc : Int) + off = (tgt : Int)) (kt : y < x → ax_T l G cy b R own nm cc nL ret K mc ms tgt lv st h n cells slots) (kf : ¬ y < x → ax_T l G cy b R own nm cc nL ret K mc ms (pc + 3) lv st h n cells slots) : ax_T l G cy b R own nm cc nL ret K mc ms pc lv (.int y :: .int x :: st) h n cells slots := by
  intro p e s m args below meth c Q H locs ls E hK hR hRp hS hb hl
  exact lv_icmp_gt E.1 E.2.1 hd ht (fun q => kt q p e s m args below meth c Q H locs ls E hK hR hRp hS hb hl) (fun q => kf q p e s m args below meth c Q H locs ls E hK hR hRp hS hb hl)
theorem xt_if_le {x : Int32} {off : Int} (tgt : Nat) (hd : decode cc pc = .ok (.ifCond .le off, 3)) (ht : (pc : Int) + off = (tgt : Int)) (kt : x ≤ 0 → ax_T l G cy b R own nm cc nL ret K mc ms tgt lv st h n cells slots) (kf : ¬ x ≤ 0 → ax_T l G cy b R own nm cc nL ret K mc ms (pc + 3) lv st h n cells slots) : ax_T l G cy b R own nm cc nL ret K mc ms pc lv (.int x :: st) h n cells slots := by
  intro p e s m args below meth c Q H locs ls E hK hR hRp hS hb hl
  exact lv_if_le E.1 E.2.1 hd ht (fun q => kt q p e s m args below meth c Q H locs ls E hK hR hRp hS hb hl) (fun q => kf q p e s m args below meth c Q H locs ls E hK hR hRp hS hb hl)
theorem xt_icmp_le {x y : Int32} {off : Int} (tgt : Nat) (hd : decode cc pc = .ok (.if_icmp .le off, 3)) (ht : (pc : Int) + off = (tgt : Int)) (kt : x ≤ y → ax_T l G cy b R own nm cc nL ret K mc ms tgt lv st h n cells slots) (kf : ¬ x ≤ y → ax_T l G cy b R own nm cc nL ret K mc ms (pc + 3) lv st h n cells slots) : ax_T l G cy b R own nm cc nL ret K mc ms pc lv (.int y :: .int x :: st) h n cells slots := by
  intro p e s m args below meth c Q H locs ls E hK hR hRp hS hb hl
  exact lv_icmp_le E.1 E.2.1 hd ht (fun q => kt q p e s m args below meth c Q H locs ls E hK hR hRp hS hb hl) (fun q => kf q p e s m args below meth c Q H locs ls E hK hR hRp hS hb hl)
theorem xt_goto {off : Int} (tgt : Nat) (hd : decode cc pc = .ok (.goto off, 3)) (ht : (pc : Int) + off = (tgt : Int)) (k : ax_T l G cy b R own nm cc nL ret K mc ms tgt lv st h n cells slots) : ax_T l G cy b R own nm cc nL ret K mc ms pc lv st h n cells slots := by
  intro p e s m args below meth c Q H locs ls E hK hR hRp hS hb hl
  exact lv_goto E.1 E.2.1 hd ht (k p e s m args below meth c Q H locs ls E hK hR hRp hS hb hl)
theorem xt_tableOut {dflt lo hi : Int} {offs : Array Int} {len : Nat} {x : Int32} (tgt : Nat) (hd : decode cc pc = .ok (.tableswitch dflt lo hi offs, len)) (hx : x.toInt < lo ∨ hi < x.toInt) (ht : (pc : Int) + dflt = (tgt : Int)) (k : ax_T l G cy b R own nm cc nL ret K mc ms tgt lv st h n cells slots) : ax_T l G cy b R own nm cc nL ret K mc ms pc lv (.int x :: st) h n cells slots := by
  intro p e s m args below meth c Q H locs ls E hK hR hRp hS hb hl
  exact lv_tableOut E.1 E.2.1 hd hx ht (k p e s m args below meth c Q H locs ls E hK hR hRp hS hb hl)
theorem xt_tableIn {dflt lo hi : Int} {offs : Array Int} {len : Nat} {x : Int32} {off : Int} (tgt : Nat) (hd : decode cc pc = .ok (.tableswitch dflt lo hi offs, len)) (h1 : ¬ x.toInt < lo) (h2 : ¬ hi < x.toInt) (ho : offs[(x.toInt - lo).toNat]? = some off) (ht : (pc : Int) + off = (tgt : Int)) (k : ax_T l G cy b R own nm cc nL ret K mc ms tgt lv st h n cells slots) : ax_T l G cy b R own nm cc nL ret K mc ms pc lv (.int x :: st) h n cells slots := by
  intro p e s m args below meth c Q H locs ls E hK hR hRp hS hb hl
  exact lv_tableIn E.1 E.2.1 hd h1 h2 ho ht (k p e s m args below meth c Q H locs ls E hK hR hRp hS hb hl)
theorem xt_ret (hd : decode cc pc = .ok (.return_, 1)) (hr : ret = none) (hc : cells ≤ mc) (hs : slots ≤ ms) (k : K none h n) : ax_T l G cy b R own nm cc nL ret K mc ms pc lv [] h n cells slots := by
  intro p e s m args below meth c Q H locs ls E hK hR hRp hS hb hl
  exact W.widen hc hs (hR none h n H locs pc ls k hd hr hRp hS)
theorem xt_iret {v : Int32} (hd : decode cc pc = .ok (.ireturn, 1)) (hr : ret = some .int) (hc : cells ≤ mc) (hs : slots ≤ ms) (k : K (some (.int v)) h n) : ax_T l G cy b R own nm cc nL ret K mc ms pc lv [.int v] h n cells slots := by
  intro p e s m args below meth c Q H locs ls E hK hR hRp hS hb hl
  exact W.widen hc hs (hR (some (.int v)) h n H locs pc ls k hd ⟨.int, hr, rfl⟩ hRp hS)
theorem xt_zret {v : Int32} (hd : decode cc pc = .ok (.ireturn, 1)) (hr : ret = some .boolean) (hv : v = 0 ∨ v = 1) (hc : cells ≤ mc) (hs : slots ≤ ms) (k : K (some (.int v)) h n) : ax_T l G cy b R own nm cc nL ret K mc ms pc lv [.int v] h n cells slots := by
  intro p e s m args below meth c Q H locs ls E hK hR hRp hS hb hl
  exact W.widen hc hs (hR (some (.int v)) h n H locs pc ls k hd ⟨.boolean, hr, by rcases hv with rfl | rfl <;> rfl⟩ hRp hS)
theorem xt_lret {v : Int64} (hd : decode cc pc = .ok (.lreturn, 1)) (hr : ret = some .long) (hc : cells ≤ mc) (hs : slots ≤ ms) (k : K (some (.long v)) h n) : ax_T l G cy b R own nm cc nL ret K mc ms pc lv [.long v] h n cells slots := by
  intro p e s m args below meth c Q H locs ls E hK hR hRp hS hb hl
  exact W.widen hc hs (hR (some (.long v)) h n H locs pc ls k hd hr hRp hS)
theorem xt_wid {c2 s2 : Nat} (hc : cells ≤ c2) (hs : slots ≤ s2) (k : ax_T l G cy b R own nm cc nL ret K mc ms pc lv st h n c2 s2) : ax_T l G cy b R own nm cc nL ret K mc ms pc lv st h n cells slots := by
  intro p e s m args below meth c Q H locs ls E hK hR hRp hS hb hl
  exact W.widen hc hs (k p e s m args below meth c Q H locs ls E hK hR hRp hS hb hl)
theorem xt_eq {h2 : ax_H} (e : h = h2) (k : ax_T l G cy b R own nm cc nL ret K mc ms pc lv st h2 n cells slots) : ax_T l G cy b R own nm cc nL ret K mc ms pc lv st h n cells slots := by
  subst e; exact k
theorem xt_top {v w : Value} (e : v = w) (k : ax_T l G cy b R own nm cc nL ret K mc ms pc lv (w :: st) h n cells slots) : ax_T l G cy b R own nm cc nL ret K mc ms pc lv (v :: st) h n cells slots := by
  subst e; exact k
theorem xt_top2 {v w v2 w2 : Value} (e : v = w) (e2 : v2 = w2) (k : ax_T l G cy b R own nm cc nL ret K mc ms pc lv (w :: w2 :: st) h n cells slots) : ax_T l G cy b R own nm cc nL ret K mc ms pc lv (v :: v2 :: st) h n cells slots := by
  subst e; subst e2; exact k
/-- a field of an object of class ci is read -/
theorem xt_getG {i ci k index N : Nat} {C : String} {TT : u_T} {fs : List Value} {v : Value} (hi : h i = some (.inr (ci, fs))) (hc : vwCl[ci]? = some (C, TT, N)) (hk : k < N) (hin : ∀ w ∈ u_ws C TT N, w ∈ ax_Tb)
    (hlink : Cond.fieldLink own index (TT k).1 (TT k).2.1 (TT k).2.2.1 ∈ ax_Tb ∨ ∃ host, Cond.fieldLinkNest own index (TT k).1 (TT k).2.1 (TT k).2.2.1 host ∈ ax_Nw) (hv : fs[k]? = some v) (hd : decode cc pc = .ok (.getfield index, 3))
    (kk : ax_T l G cy b R own nm cc nL ret K mc ms (pc + 3) lv (v :: st) h n cells slots) : ax_T l G cy b R own nm cc nL ret K mc ms pc lv (.ref i :: st) h n cells slots := by
  intro p e s m args below meth c Q H locs ls E hK hR hRp hS hb hl
  have hP : va_P G vwCl [(b + i, ax_e cy b (.inr (ci, fs)))] H := fun j q hq => by
    have hj : j < 1 := (List.getElem?_eq_some_iff.mp hq).1
    rw [show j = 0 by omega] at hq
    cases hq
    exact hRp.2 i _ hi
  have hv' : (fs.map (ax_v b))[k]? = some (ax_v b v) := by rw [List.getElem?_map, hv]; rfl
  rcases hlink with hlink | ⟨host, hlink⟩
  · exact va_get E.1 E.2.1 E.2.2.2.2.1 hin E.2.2.2.1 hK.1 hP 0 rfl hc k hk (E.2.2.2.2.1 _ hlink) (fun _ h9 => h9) hv' hd (kk p e s m args below meth c Q H locs ls E hK hR hRp hS hb hl)
  · exact va_getN E.1 E.2.1 E.2.2.2.2.1 hin E.2.2.2.1 hK.1 hP 0 rfl hc k hk (va_Nw.use rfl (hK.2.1 _ hlink)) (fun _ h9 => h9) hv' hd (kk p e s m args below meth c Q H locs ls E hK hR hRp hS hb hl)
theorem ax_S_put {A : Nat → Prop} {H0 H H1 : Heap} {locs : List Loc} {a k : Nat} (h : va_S A H0 H locs) (z : H1.size = H.size) (oq : ∀ q : Nat, q ≠ a → H1[q]? = H[q]?) (ha : A a) : va_S A H0 H1 (locs ++ [⟨a, k⟩]) := va_S.put h z oq ha
/-- a field is written (a field that isn't final, or a constructor's own) -/
theorem xt_putG {i ci k index N : Nat} {C : String} {TT : u_T} {ty0 : Nat → FieldType} {fs : List Value} {v : Value} {ty : FieldType} (hi : h i = some (.inr (ci, fs))) (hc : vwCl[ci]? = some (C, TT, N)) (hk : k < N) (hin : ∀ w ∈ u_ws C TT N, w ∈ ax_Tb)
    (hty : ∀ k, k < N → parseFieldDescriptor (TT k).2.2.1 = some (ty0 k)) (hnm : ∀ a, a < N → ∀ b, b < N → a ≠ b → (TT a).2.1 ≠ (TT b).2.1)
    (hlink : Cond.fieldLink own index (TT k).1 (TT k).2.1 (TT k).2.2.1 ∈ ax_Tb ∨ ∃ host, Cond.fieldLinkNest own index (TT k).1 (TT k).2.1 (TT k).2.2.1 host ∈ ax_Nw)
    (hfin : (TT k).2.2.2 = false ∨ ((TT k).2.2.2 = true ∧ nm = "<init>" ∧ (TT k).1 = own ∧ Cond.fieldLink own index (TT k).1 (TT k).2.1 (TT k).2.2.1 ∈ ax_Tb)) (hty1 : parseFieldDescriptor (TT k).2.2.1 = some ty) (hn : ∀ b, narrow ty (ax_v b v) = ax_v b v) (hfit : ∀ b, fits ty (ax_v b v) = true) (hl2 : k < fs.length) (hd : decode cc pc = .ok (.putfield index, 3))
    (kk : ax_T l G cy b R own nm cc nL ret K mc ms (pc + 3) lv st (hp h i (.inr (ci, fs.set k v))) n cells slots) : ax_T l G cy b R own nm cc nL ret K mc ms pc lv (v :: .ref i :: st) h n cells slots := by
  intro p e s m args below meth c Q H locs ls E hK hR hRp hS hb hl
  have hts := E.2.2.2.2.1
  have hap := va_apart (own := own) hts hin ty0 hty hnm hK.1 hc
  obtain ⟨r, h1, cell, q1, q2, q3, q4⟩ := hRp.2 i _ hi
  have hr : r = (C, TT, N) := Option.some.inj (h1.symm.trans hc)
  subst hr
  obtain ⟨hSl, hfc, kC, hkC, hkind⟩ := hK.1.1 ci _ hc
  obtain ⟨cf, kf, fi, f, hfi, hsl⟩ := hSl k hk
  have hlay := hts _ (hin _ (u_in_lay hk))
  unfold u_lay at hlay
  have hst := (u_facts hfc hkC (u_lays hts hin hk) hfi).1
  have hA : b ≤ b + i := by omega
  have fin : ∀ (H' : Heap) (e1 : H'[b + i]? = some (cell.setSlot ((G.2 ci) k) (ax_v b v))) (e2 : H'.size = H.size) (e3 : ∀ q, q ≠ b + i → H'[q]? = H[q]?), ax_Rep G cy b n (hp h i (.inr (ci, fs.set k v))) H' := fun H' e1 e2 e3 =>
    hRp.set e2 ⟨_, hc, t_OB.to (V := updV (vp_V (fs.map (ax_v b))) k (ax_v b v)) ⟨_, e1, q2, q3, t_set q4 hap hk _⟩ (fun j _ => by rw [vp_updV_set (by rw [List.length_map]; exact hl2), ← List.map_set])⟩ e3
  rcases hfin with hfin | ⟨hfin, hin2, hdecl, hlk2⟩
  · rw [if_neg (by rw [hfin]; decide)] at hlay
    have h6 := u_store hfc hkC hkind hlay hfi hty1 (hn b) (hfit b)
    rcases hlink with hlink | ⟨host, hlink⟩
    · refine W.putK E.1 E.2.1 (f := f) ⟨E.2.2.2.1, hts _ hlink, ⟨_, _, _, hfi⟩, hst⟩ (by rw [q2]; exact h6) q1 q3 (by rw [hsl]; exact k2_hasslot (q4 k hk)) rfl rfl hd fun H' e1 e2 e3 => ?_
      rw [hsl] at e1 ⊢
      exact kk p e s m args below meth c Q H' _ ls E hK hR (fin H' e1 e2 e3) (hS.put e2 e3 hA) hb hl
    · refine va_WputK E.1 E.2.1 (f := f) E.2.2.2.1 (va_Nw.use rfl (hK.2.1 _ hlink)) hfi hst (by rw [q2]; exact h6) q1 q3 (by rw [hsl]; exact k2_hasslot (q4 k hk)) rfl rfl hd fun H' e1 e2 e3 => ?_
      rw [hsl] at e1 ⊢
      exact kk p e s m args below meth c Q H' _ ls E hK hR (fin H' e1 e2 e3) (hS.put e2 e3 hA) hb hl
  · rw [if_pos hfin] at hlay
    have hcf : m.cls = cf := by
      obtain ⟨_, _, c', _, _, _, -, -, hf', -, -, -, hown2, -⟩ := Cond.laysFinal_spec hlay
      have e1 : c' = cf := by have := hfi.symm.trans hf'; simp at this; exact this.1.symm
      rw [hdecl] at hown2
      rw [← e1]; exact Option.some.inj (E.2.2.2.1.symm.trans hown2)
    have h6 := u_fits hfc hkC hkind (Or.inr hlay) hfi hty1 (hn b) (hfit b)
    refine W.putFinK E.1 E.2.1 E.2.2.2.1 (hts _ hlk2) hfi hst hcf (E.2.2.2.2.2.2.2.trans hin2) (by rw [q2]; exact h6) q1 q3 (by rw [hsl]; exact k2_hasslot (q4 k hk)) rfl rfl hd fun H' e1 e2 e3 => ?_
    rw [hsl] at e1 ⊢
    exact kk p e s m args below meth c Q H' _ ls E hK hR (fin H' e1 e2 e3) (hS.put e2 e3 hA) hb hl
theorem xt_iald {i N : Nat} {f : Nat → Int32} {x : Int32} (k : Nat) (hi : h i = some (ax_I N f)) (hk : k < N) (hx : x = nI k) (hN : N < 2 ^ 31) (hd : decode cc pc = .ok (.iaload, 1)) (kk : ax_T l G cy b R own nm cc nL ret K mc ms (pc + 1) lv (.int (f k) :: st) h n cells slots) : ax_T l G cy b R own nm cc nL ret K mc ms pc lv (.int x :: .ref i :: st) h n cells slots := by
  intro p e s m args below meth c Q H locs ls E hK hR hRp hS hb hl
  subst hx
  have hc : (nI k).toNatClampNeg = k := nI_clamp (by omega)
  have hin : ¬ (nI k < 0 ∨ N ≤ (nI k).toNatClampNeg) := nI_in hk hN
  refine W.iald (v := ax_v b (.int (f k))) E.1 E.2.1 (hRp.2 i _ hi) ((hK.1.2 0 _ rfl).1 N _) (fun q => by cases q) (by show ¬ (_ ∨ (arrV _ _ _).slots.size ≤ _); rw [arrV_size]; exact hin) (by show (arrV _ N _).slots[_]? = _; rw [hc, arrV_read _ _ hk]; first | rfl | skip) rfl rfl hd (kk p e s m args below meth c Q H locs ls E hK hR hRp hS hb hl)
theorem xt_lald {i N : Nat} {f : Nat → Int64} {x : Int32} (k : Nat) (hi : h i = some (ax_L N f)) (hk : k < N) (hx : x = nI k) (hN : N < 2 ^ 31) (hd : decode cc pc = .ok (.laload, 1)) (kk : ax_T l G cy b R own nm cc nL ret K mc ms (pc + 1) lv (.long (f k) :: st) h n cells slots) : ax_T l G cy b R own nm cc nL ret K mc ms pc lv (.int x :: .ref i :: st) h n cells slots := by
  intro p e s m args below meth c Q H locs ls E hK hR hRp hS hb hl
  subst hx
  have hc : (nI k).toNatClampNeg = k := nI_clamp (by omega)
  have hin : ¬ (nI k < 0 ∨ N ≤ (nI k).toNatClampNeg) := nI_in hk hN
  refine W.lald (v := ax_v b (.long (f k))) E.1 E.2.1 (hRp.2 i _ hi) ((hK.1.2 1 _ rfl).1 N _) (fun q => by cases q) (by show ¬ (_ ∨ (arrV _ _ _).slots.size ≤ _); rw [arrV_size]; exact hin) (by show (arrV _ N _).slots[_]? = _; rw [hc, arrV_read _ _ hk]; first | rfl | skip) rfl rfl hd (kk p e s m args below meth c Q H locs ls E hK hR hRp hS hb hl)
theorem xt_cald {i N : Nat} {f : Nat → Int32} {x : Int32} (k : Nat) (hi : h i = some (ax_B N f)) (hk : k < N) (hx : x = nI k) (hN : N < 2 ^ 31) (hd : decode cc pc = .ok (.caload, 1)) (kk : ax_T l G cy b R own nm cc nL ret K mc ms (pc + 1) lv (.int (f k) :: st) h n cells slots) : ax_T l G cy b R own nm cc nL ret K mc ms pc lv (.int x :: .ref i :: st) h n cells slots := by
  intro p e s m args below meth c Q H locs ls E hK hR hRp hS hb hl
  subst hx
  have hc : (nI k).toNatClampNeg = k := nI_clamp (by omega)
  have hin : ¬ (nI k < 0 ∨ N ≤ (nI k).toNatClampNeg) := nI_in hk hN
  refine W.cald (v := ax_v b (.int (f k))) E.1 E.2.1 (hRp.2 i _ hi) ((hK.1.2 2 _ rfl).1 N _) (fun q => by cases q) (by show ¬ (_ ∨ (arrV _ _ _).slots.size ≤ _); rw [arrV_size]; exact hin) (by show (arrV _ N _).slots[_]? = _; rw [hc, arrV_read _ _ hk]; first | rfl | skip) rfl rfl hd (kk p e s m args below meth c Q H locs ls E hK hR hRp hS hb hl)
theorem xt_aald3 {i N q : Nat} {f : Nat → Option Nat} {x : Int32} (k : Nat) (hi : h i = some (ax_R 3 N f)) (hk : k < N) (hx : x = nI k) (hN : N < 2 ^ 31) (hq : f k = some q) (hd : decode cc pc = .ok (.aaload, 1)) (kk : ax_T l G cy b R own nm cc nL ret K mc ms (pc + 1) lv (.ref q :: st) h n cells slots) : ax_T l G cy b R own nm cc nL ret K mc ms pc lv (.int x :: .ref i :: st) h n cells slots := by
  intro p e s m args below meth c Q H locs ls E hK hR hRp hS hb hl
  subst hx
  have hc : (nI k).toNatClampNeg = k := nI_clamp (by omega)
  have hin : ¬ (nI k < 0 ∨ N ≤ (nI k).toNatClampNeg) := nI_in hk hN
  refine W.aald (v := .ref (b + q)) (ty := .object RX2) E.1 E.2.1 (hRp.2 i _ hi) ((hK.1.2 3 _ rfl).1 N _) rfl (fun q => by cases q) (by show ¬ (_ ∨ (arrV _ _ _).slots.size ≤ _); rw [arrV_size]; exact hin) (by show (arrV _ N _).slots[_]? = _; rw [hc, arrV_read _ _ hk]; show some (va_rf ((f k).map _)) = _; rw [hq]; rfl) rfl rfl hd (kk p e s m args below meth c Q H locs ls E hK hR hRp hS hb hl)
theorem xt_aald4 {i N q : Nat} {f : Nat → Option Nat} {x : Int32} (k : Nat) (hi : h i = some (ax_R 4 N f)) (hk : k < N) (hx : x = nI k) (hN : N < 2 ^ 31) (hq : f k = some q) (hd : decode cc pc = .ok (.aaload, 1)) (kk : ax_T l G cy b R own nm cc nL ret K mc ms (pc + 1) lv (.ref q :: st) h n cells slots) : ax_T l G cy b R own nm cc nL ret K mc ms pc lv (.int x :: .ref i :: st) h n cells slots := by
  intro p e s m args below meth c Q H locs ls E hK hR hRp hS hb hl
  subst hx
  have hc : (nI k).toNatClampNeg = k := nI_clamp (by omega)
  have hin : ¬ (nI k < 0 ∨ N ≤ (nI k).toNatClampNeg) := nI_in hk hN
  refine W.aald (v := .ref (b + q)) (ty := .object RX4) E.1 E.2.1 (hRp.2 i _ hi) ((hK.1.2 4 _ rfl).1 N _) rfl (fun q => by cases q) (by show ¬ (_ ∨ (arrV _ _ _).slots.size ≤ _); rw [arrV_size]; exact hin) (by show (arrV _ N _).slots[_]? = _; rw [hc, arrV_read _ _ hk]; show some (va_rf ((f k).map _)) = _; rw [hq]; rfl) rfl rfl hd (kk p e s m args below meth c Q H locs ls E hK hR hRp hS hb hl)
theorem xt_aald5 {i N q : Nat} {f : Nat → Option Nat} {x : Int32} (k : Nat) (hi : h i = some (ax_R 5 N f)) (hk : k < N) (hx : x = nI k) (hN : N < 2 ^ 31) (hq : f k = some q) (hd : decode cc pc = .ok (.aaload, 1)) (kk : ax_T l G cy b R own nm cc nL ret K mc ms (pc + 1) lv (.ref q :: st) h n cells slots) : ax_T l G cy b R own nm cc nL ret K mc ms pc lv (.int x :: .ref i :: st) h n cells slots := by
  intro p e s m args below meth c Q H locs ls E hK hR hRp hS hb hl
  subst hx
  have hc : (nI k).toNatClampNeg = k := nI_clamp (by omega)
  have hin : ¬ (nI k < 0 ∨ N ≤ (nI k).toNatClampNeg) := nI_in hk hN
  refine W.aald (v := .ref (b + q)) (ty := .object RX5) E.1 E.2.1 (hRp.2 i _ hi) ((hK.1.2 5 _ rfl).1 N _) rfl (fun q => by cases q) (by show ¬ (_ ∨ (arrV _ _ _).slots.size ≤ _); rw [arrV_size]; exact hin) (by show (arrV _ N _).slots[_]? = _; rw [hc, arrV_read _ _ hk]; show some (va_rf ((f k).map _)) = _; rw [hq]; rfl) rfl rfl hd (kk p e s m args below meth c Q H locs ls E hK hR hRp hS hb hl)
theorem xt_iast {i N : Nat} {f : Nat → Int32} {x : Int32} {v : Int32} (k : Nat) (hi : h i = some (ax_I N f)) (hk : k < N) (hx : x = nI k) (hN : N < 2 ^ 31) (hd : decode cc pc = .ok (.iastore, 1)) (kk : ax_T l G cy b R own nm cc nL ret K mc ms (pc + 1) lv st (hp h i (ax_I N (upd f k v))) n cells slots) : ax_T l G cy b R own nm cc nL ret K mc ms pc lv (.int v :: .int x :: .ref i :: st) h n cells slots := by
  intro p e s m args below meth c Q H locs ls E hK hR hRp hS hb hl
  subst hx
  have hc : (nI k).toNatClampNeg = k := nI_clamp (by omega)
  have hin : ¬ (nI k < 0 ∨ N ≤ (nI k).toNatClampNeg) := nI_in hk hN
  refine W.iast E.1 E.2.1 (hRp.2 i _ hi) ((hK.1.2 0 _ rfl).1 N _) (fun q => by cases q) (by show ¬ (_ ∨ (arrV _ _ _).slots.size ≤ _); rw [arrV_size]; exact hin) rfl rfl hd fun H1 e1 z oq => ?_
  refine kk p e s m args below meth c Q H1 _ ls E hK hR (hRp.set z ?_ oq) (hS.put z oq (by show b ≤ b + i; omega)) hb hl
  show H1[b + i]? = some (vp_cell _ _)
  rw [e1, hc]
  show some ((vp_cell _ _).setSlot _ _) = some (vp_cell _ _)
  rw [show ax_a b (N, .inl f) = (N, .inl f) from rfl, show ax_a b (N, .inl (upd f k v)) = (N, .inl (upd f k v)) from rfl, vp_cell_i, vp_cell_i, arrV_store]
  congr 2
  funext q
  by_cases hq : q = k
  · subst hq; simp [updV, upd]
  · simp [updV, upd, hq]
theorem xt_last {i N : Nat} {f : Nat → Int64} {x : Int32} {v : Int64} (k : Nat) (hi : h i = some (ax_L N f)) (hk : k < N) (hx : x = nI k) (hN : N < 2 ^ 31) (hd : decode cc pc = .ok (.lastore, 1)) (kk : ax_T l G cy b R own nm cc nL ret K mc ms (pc + 1) lv st (hp h i (ax_L N (vp_updL f k v))) n cells slots) : ax_T l G cy b R own nm cc nL ret K mc ms pc lv (.long v :: .int x :: .ref i :: st) h n cells slots := by
  intro p e s m args below meth c Q H locs ls E hK hR hRp hS hb hl
  subst hx
  have hc : (nI k).toNatClampNeg = k := nI_clamp (by omega)
  have hin : ¬ (nI k < 0 ∨ N ≤ (nI k).toNatClampNeg) := nI_in hk hN
  refine W.last E.1 E.2.1 (hRp.2 i _ hi) ((hK.1.2 1 _ rfl).1 N _) (fun q => by cases q) (by show ¬ (_ ∨ (arrV _ _ _).slots.size ≤ _); rw [arrV_size]; exact hin) rfl rfl hd fun H1 e1 z oq => ?_
  refine kk p e s m args below meth c Q H1 _ ls E hK hR (hRp.set z ?_ oq) (hS.put z oq (by show b ≤ b + i; omega)) hb hl
  show H1[b + i]? = some (vp_cell _ _)
  rw [e1, hc]
  show some ((vp_cell _ _).setSlot _ _) = some (vp_cell _ _)
  rw [show ax_a b (N, .inr (.inl f)) = (N, .inr (.inl f)) from rfl, show ax_a b (N, .inr (.inl (vp_updL f k v))) = (N, .inr (.inl (vp_updL f k v))) from rfl, vp_cell_l, vp_cell_l, arrV_store]
  congr 2
  funext q
  by_cases hq : q = k
  · subst hq; simp [updV, vp_updL]
  · simp [updV, vp_updL, hq]
theorem xt_cast {i N : Nat} {f : Nat → Int32} {x : Int32} {v : Int32} (k : Nat) (hi : h i = some (ax_B N f)) (hk : k < N) (hx : x = nI k) (hN : N < 2 ^ 31) (hd : decode cc pc = .ok (.castore, 1)) (kk : ax_T l G cy b R own nm cc nL ret K mc ms (pc + 1) lv st (hp h i (ax_B N (upd f k (vp_nar .char v)))) n cells slots) : ax_T l G cy b R own nm cc nL ret K mc ms pc lv (.int v :: .int x :: .ref i :: st) h n cells slots := by
  intro p e s m args below meth c Q H locs ls E hK hR hRp hS hb hl
  subst hx
  have hc : (nI k).toNatClampNeg = k := nI_clamp (by omega)
  have hin : ¬ (nI k < 0 ∨ N ≤ (nI k).toNatClampNeg) := nI_in hk hN
  refine W.cast E.1 E.2.1 (hRp.2 i _ hi) ((hK.1.2 2 _ rfl).1 N _) (fun q => by cases q) (by show ¬ (_ ∨ (arrV _ _ _).slots.size ≤ _); rw [arrV_size]; exact hin) rfl rfl hd fun H1 e1 z oq => ?_
  refine kk p e s m args below meth c Q H1 _ ls E hK hR (hRp.set z ?_ oq) (hS.put z oq (by show b ≤ b + i; omega)) hb hl
  show H1[b + i]? = some (vp_cell _ _)
  rw [e1, hc]
  show some ((vp_cell _ _).setSlot _ _) = some (vp_cell _ _)
  rw [show ax_a b (N, .inl f) = (N, .inl f) from rfl, show ax_a b (N, .inl (upd f k (vp_nar .char v))) = (N, .inl (upd f k (vp_nar .char v))) from rfl, vp_cell_i, vp_cell_i, arrV_store]
  congr 2
  funext q
  by_cases hq : q = k
  · subst hq; (simp [updV, upd, vp_nar] <;> rfl)
  · simp [updV, upd, vp_nar, hq]
theorem xt_aast3 {i N q : Nat} {f : Nat → Option Nat} {x : Int32} {fs : List Value} (k : Nat) (hi : h i = some (ax_R 3 N f)) (hk : k < N) (hx : x = nI k) (hN : N < 2 ^ 31) (hq : h q = some (.inr (2, fs))) (hd : decode cc pc = .ok (.aastore, 1)) (kk : ax_T l G cy b R own nm cc nL ret K mc ms (pc + 1) lv st (hp h i (ax_R 3 N (va_up f k (some q)))) n cells slots) : ax_T l G cy b R own nm cc nL ret K mc ms pc lv (.ref q :: .int x :: .ref i :: st) h n cells slots := by
  intro p e s m args below meth c Q H locs ls E hK hR hRp hS hb hl
  subst hx
  have hc : (nI k).toNatClampNeg = k := nI_clamp (by omega)
  have h0 : ¬ nI k < 0 := nI_pos (by omega)
  obtain ⟨r', hr', cellV, g1, g2, g3, -⟩ := hRp.2 q _ hq
  have hcls := (hK.1.1 2 _ rfl).2
  obtain ⟨kA, comp, k1, k2, k3, -⟩ := (hK.1.2 3 _ rfl).2
  have hcomp : comp = G.1 2 := Option.some.inj (k3.symm.trans hcls.1)
  subst hcomp
  obtain ⟨kC, hkC, -⟩ := hcls.2
  refine W.aast E.1 E.2.1 (hRp.2 i _ hi) (fun q h => by cases h) (fun h => by cases h) k1 k2 rfl hkC ⟨h0, by show _ < (arrV _ _ _).slots.size; rw [arrV_size, hc]; exact hk⟩ g1 (fun q h => by rw [g3] at h; cases h) (by rw [g2]; exact hkC) (by rw [g2]; exact va_assign hcls) rfl rfl hd fun H1 e1 z oq => ?_
  refine kk p e s m args below meth c Q H1 _ ls E hK hR (hRp.set z ?_ oq) (hS.put z oq (by show b ≤ b + i; omega)) hb hl
  show H1[b + i]? = some (vp_cell _ _)
  rw [e1, hc]
  show some ((arrV _ N (fun j => va_rf ((f j).map (fun i => b + i)))).setSlot _ _) = some (arrV _ N (fun j => va_rf ((va_up f k (some q) j).map (fun i => b + i))))
  rw [arrV_store]
  congr 2
  funext j
  by_cases hj : j = k
  · subst hj; simp [updV, va_up, va_rf]
  · simp [updV, va_up, hj]
theorem xt_aast4 {i N q : Nat} {f : Nat → Option Nat} {x : Int32} {fs : List Value} (k : Nat) (hi : h i = some (ax_R 4 N f)) (hk : k < N) (hx : x = nI k) (hN : N < 2 ^ 31) (hq : h q = some (.inr (4, fs))) (hd : decode cc pc = .ok (.aastore, 1)) (kk : ax_T l G cy b R own nm cc nL ret K mc ms (pc + 1) lv st (hp h i (ax_R 4 N (va_up f k (some q)))) n cells slots) : ax_T l G cy b R own nm cc nL ret K mc ms pc lv (.ref q :: .int x :: .ref i :: st) h n cells slots := by
  intro p e s m args below meth c Q H locs ls E hK hR hRp hS hb hl
  subst hx
  have hc : (nI k).toNatClampNeg = k := nI_clamp (by omega)
  have h0 : ¬ nI k < 0 := nI_pos (by omega)
  obtain ⟨r', hr', cellV, g1, g2, g3, -⟩ := hRp.2 q _ hq
  have hcls := (hK.1.1 4 _ rfl).2
  obtain ⟨kA, comp, k1, k2, k3, -⟩ := (hK.1.2 4 _ rfl).2
  have hcomp : comp = G.1 4 := Option.some.inj (k3.symm.trans hcls.1)
  subst hcomp
  obtain ⟨kC, hkC, -⟩ := hcls.2
  refine W.aast E.1 E.2.1 (hRp.2 i _ hi) (fun q h => by cases h) (fun h => by cases h) k1 k2 rfl hkC ⟨h0, by show _ < (arrV _ _ _).slots.size; rw [arrV_size, hc]; exact hk⟩ g1 (fun q h => by rw [g3] at h; cases h) (by rw [g2]; exact hkC) (by rw [g2]; exact va_assign hcls) rfl rfl hd fun H1 e1 z oq => ?_
  refine kk p e s m args below meth c Q H1 _ ls E hK hR (hRp.set z ?_ oq) (hS.put z oq (by show b ≤ b + i; omega)) hb hl
  show H1[b + i]? = some (vp_cell _ _)
  rw [e1, hc]
  show some ((arrV _ N (fun j => va_rf ((f j).map (fun i => b + i)))).setSlot _ _) = some (arrV _ N (fun j => va_rf ((va_up f k (some q) j).map (fun i => b + i))))
  rw [arrV_store]
  congr 2
  funext j
  by_cases hj : j = k
  · subst hj; simp [updV, va_up, va_rf]
  · simp [updV, va_up, hj]
theorem xt_aast5 {i N q : Nat} {f : Nat → Option Nat} {x : Int32} {fs : List Value} (k : Nat) (hi : h i = some (ax_R 5 N f)) (hk : k < N) (hx : x = nI k) (hN : N < 2 ^ 31) (hq : h q = some (.inr (5, fs))) (hd : decode cc pc = .ok (.aastore, 1)) (kk : ax_T l G cy b R own nm cc nL ret K mc ms (pc + 1) lv st (hp h i (ax_R 5 N (va_up f k (some q)))) n cells slots) : ax_T l G cy b R own nm cc nL ret K mc ms pc lv (.ref q :: .int x :: .ref i :: st) h n cells slots := by
  intro p e s m args below meth c Q H locs ls E hK hR hRp hS hb hl
  subst hx
  have hc : (nI k).toNatClampNeg = k := nI_clamp (by omega)
  have h0 : ¬ nI k < 0 := nI_pos (by omega)
  obtain ⟨r', hr', cellV, g1, g2, g3, -⟩ := hRp.2 q _ hq
  have hcls := (hK.1.1 5 _ rfl).2
  obtain ⟨kA, comp, k1, k2, k3, -⟩ := (hK.1.2 5 _ rfl).2
  have hcomp : comp = G.1 5 := Option.some.inj (k3.symm.trans hcls.1)
  subst hcomp
  obtain ⟨kC, hkC, -⟩ := hcls.2
  refine W.aast E.1 E.2.1 (hRp.2 i _ hi) (fun q h => by cases h) (fun h => by cases h) k1 k2 rfl hkC ⟨h0, by show _ < (arrV _ _ _).slots.size; rw [arrV_size, hc]; exact hk⟩ g1 (fun q h => by rw [g3] at h; cases h) (by rw [g2]; exact hkC) (by rw [g2]; exact va_assign hcls) rfl rfl hd fun H1 e1 z oq => ?_
  refine kk p e s m args below meth c Q H1 _ ls E hK hR (hRp.set z ?_ oq) (hS.put z oq (by show b ≤ b + i; omega)) hb hl
  show H1[b + i]? = some (vp_cell _ _)
  rw [e1, hc]
  show some ((arrV _ N (fun j => va_rf ((f j).map (fun i => b + i)))).setSlot _ _) = some (arrV _ N (fun j => va_rf ((va_up f k (some q) j).map (fun i => b + i))))
  rw [arrV_store]
  congr 2
  funext j
  by_cases hj : j = k
  · subst hj; simp [updV, va_up, va_rf]
  · simp [updV, va_up, hj]
theorem xt_newG {ci index N : Nat} {C : String} {TT : u_T} {ty : Nat → FieldType} {fs : List Value} (hc : vwCl[ci]? = some (C, TT, N)) (hin : ∀ w ∈ u_ws C TT N, w ∈ ax_Tb) (hty : ∀ k, k < N → parseFieldDescriptor (TT k).2.2.1 = some (ty k)) (hcl : Cond.classLink own index C ∈ ax_Tb) (hins : Cond.instantiable C N ∈ ax_Tb) (hini : Cond.initialized C ∈ ax_Tb)
    (hfs : ∀ b j, j < N → defaultValue (ty j) = vp_V (fs.map (ax_v b)) j) (hcells : cells + 1 ≤ R.cells) (hslots : slots + N ≤ R.slots) (hd : decode cc pc = .ok (.new index, 3)) (kk : ax_T l G cy b R own nm cc nL ret K mc ms (pc + 3) lv (.ref n :: st) (hp h n (.inr (ci, fs))) (n + 1) (cells + 1) (slots + N)) : ax_T l G cy b R own nm cc nL ret K mc ms pc lv st h n cells slots := by
  intro p e s m args below meth c Q H locs ls E hK hR hRp hS hb hl
  have hts := E.2.2.2.2.1
  have hKn := hK.1.1 ci _ hc
  refine W.newcK E.1 E.2.1 E.2.2.2.1 (hts _ hcl) (hts _ hins) (hts _ hini) rfl hd hcells hslots hKn.2.1 rfl fun H1 kC hkC e1 z1 o1 => ?_
  have hz : H.size = b + n := hRp.1
  have hRp' : ax_Rep G cy b (n + 1) (hp h n (.inr (ci, fs))) H1 := hRp.push z1 ⟨_, hc, (u_born ty hts hin hKn hkC e1 hty).to (hfs b)⟩ o1
  rw [hz]
  exact kk p e s m args below meth c Q H1 locs ls E hK hR hRp' ⟨Nat.le_trans hS.1 (by omega), fun x h1 h2 => (o1 x (Nat.lt_of_lt_of_le h1 hS.1)).trans (hS.2.1 x h1 h2), hS.2.2⟩ hb hl
theorem xt_newI {x : Int32} (N : Nat) (hx : x = nI N) (hN : N ≤ 1000) (hw : Cond.arrayClass .int ∈ ax_Tb) (hcells : cells + 1 ≤ R.cells) (hslots : slots + N ≤ R.slots) (hd : decode cc pc = .ok (.newarray .int, 2)) (kk : ax_T l G cy b R own nm cc nL ret K mc ms (pc + 2) lv (.ref n :: st) (hp h n (ax_I N (fun _ => 0))) (n + 1) (cells + 1) (slots + N)) : ax_T l G cy b R own nm cc nL ret K mc ms pc lv (.int x :: st) h n cells slots := by
  intro p e s m args below meth c Q H locs ls E hK hR hRp hS hb hl
  subst hx
  have hz : H.size = b + n := hRp.1
  refine va_newaK (atype := .int) E.1 E.2.1 (E.2.2.2.2.1 _ hw) rfl hd rfl (nI_pos (by omega)) (nI_clamp (by omega)) (by show N * _ ≤ _; simp only [newarray.typeOf, componentBytes]; omega) hcells hslots hz fun H1 cA e1 z1 o1 hAr hNm => ?_
  have hcA : cA = cy.1 0 := Option.some.inj (hNm.symm.trans (hK.1.2 0 _ rfl).2)
  subst hcA
  have hRp' : ax_Rep G cy b (n + 1) (hp h n (ax_I N (fun _ => 0))) H1 := hRp.push (by rw [z1, hz]) (by rw [hz]; exact e1) (fun q hq => o1 q (by rw [← hz]; exact hq))
  exact kk p e s m args below meth c Q H1 locs ls E hK hR hRp' ⟨Nat.le_trans hS.1 (by omega), fun x h1 h2 => (o1 x (by have := hS.1; omega)).trans (hS.2.1 x h1 h2), hS.2.2⟩ hb hl
theorem xt_newL {x : Int32} (N : Nat) (hx : x = nI N) (hN : N ≤ 1000) (hw : Cond.arrayClass .long ∈ ax_Tb) (hcells : cells + 1 ≤ R.cells) (hslots : slots + N ≤ R.slots) (hd : decode cc pc = .ok (.newarray .long, 2)) (kk : ax_T l G cy b R own nm cc nL ret K mc ms (pc + 2) lv (.ref n :: st) (hp h n (ax_L N (fun _ => 0))) (n + 1) (cells + 1) (slots + N)) : ax_T l G cy b R own nm cc nL ret K mc ms pc lv (.int x :: st) h n cells slots := by
  intro p e s m args below meth c Q H locs ls E hK hR hRp hS hb hl
  subst hx
  have hz : H.size = b + n := hRp.1
  refine va_newaK (atype := .long) E.1 E.2.1 (E.2.2.2.2.1 _ hw) rfl hd rfl (nI_pos (by omega)) (nI_clamp (by omega)) (by show N * _ ≤ _; simp only [newarray.typeOf, componentBytes]; omega) hcells hslots hz fun H1 cA e1 z1 o1 hAr hNm => ?_
  have hcA : cA = cy.1 1 := Option.some.inj (hNm.symm.trans (hK.1.2 1 _ rfl).2)
  subst hcA
  have hRp' : ax_Rep G cy b (n + 1) (hp h n (ax_L N (fun _ => 0))) H1 := hRp.push (by rw [z1, hz]) (by rw [hz]; exact e1) (fun q hq => o1 q (by rw [← hz]; exact hq))
  exact kk p e s m args below meth c Q H1 locs ls E hK hR hRp' ⟨Nat.le_trans hS.1 (by omega), fun x h1 h2 => (o1 x (by have := hS.1; omega)).trans (hS.2.1 x h1 h2), hS.2.2⟩ hb hl
theorem xt_newB {x : Int32} (N : Nat) (hx : x = nI N) (hN : N ≤ 1000) (hw : Cond.arrayClass .char ∈ ax_Tb) (hcells : cells + 1 ≤ R.cells) (hslots : slots + N ≤ R.slots) (hd : decode cc pc = .ok (.newarray .char, 2)) (kk : ax_T l G cy b R own nm cc nL ret K mc ms (pc + 2) lv (.ref n :: st) (hp h n (ax_B N (fun _ => 0))) (n + 1) (cells + 1) (slots + N)) : ax_T l G cy b R own nm cc nL ret K mc ms pc lv (.int x :: st) h n cells slots := by
  intro p e s m args below meth c Q H locs ls E hK hR hRp hS hb hl
  subst hx
  have hz : H.size = b + n := hRp.1
  refine va_newaK (atype := .char) E.1 E.2.1 (E.2.2.2.2.1 _ hw) rfl hd rfl (nI_pos (by omega)) (nI_clamp (by omega)) (by show N * _ ≤ _; simp only [newarray.typeOf, componentBytes]; omega) hcells hslots hz fun H1 cA e1 z1 o1 hAr hNm => ?_
  have hcA : cA = cy.1 2 := Option.some.inj (hNm.symm.trans (hK.1.2 2 _ rfl).2)
  subst hcA
  have hRp' : ax_Rep G cy b (n + 1) (hp h n (ax_B N (fun _ => 0))) H1 := hRp.push (by rw [z1, hz]) (by rw [hz]; exact e1) (fun q hq => o1 q (by rw [← hz]; exact hq))
  exact kk p e s m args below meth c Q H1 locs ls E hK hR hRp' ⟨Nat.le_trans hS.1 (by omega), fun x h1 h2 => (o1 x (by have := hS.1; omega)).trans (hS.2.1 x h1 h2), hS.2.2⟩ hb hl
theorem xt_anew3 {x : Int32} {index : Nat} (N : Nat) (hx : x = nI N) (hN : N ≤ 1000) (hw : Cond.classLink own index RX2 ∈ ax_Tb) (hcells : cells + 1 ≤ R.cells) (hslots : slots + N ≤ R.slots) (hd : decode cc pc = .ok (.anewarray index, 3)) (kk : ax_T l G cy b R own nm cc nL ret K mc ms (pc + 3) lv (.ref n :: st) (hp h n (ax_R 3 N (fun _ => none))) (n + 1) (cells + 1) (slots + N)) : ax_T l G cy b R own nm cc nL ret K mc ms pc lv (.int x :: st) h n cells slots := by
  intro p e s m args below meth c Q H locs ls E hK hR hRp hS hb hl
  subst hx
  have hz : H.size = b + n := hRp.1
  have hcN : (nI N).toNatClampNeg = N := nI_clamp (by omega)
  refine W.anew E.1 E.2.1 E.2.2.2.1 (E.2.2.2.2.1 _ hw) (va_AO.use hK.2.2.1.1) rfl hd rfl (nI_pos (by omega)) (by rw [hcN]; omega) hcells (by rw [hcN]; exact hslots) fun cA kA comp f1 f2 f3 f4 => ?_
  rw [hcN]
  generalize hH1 : H.push ({ cls := cA, slots := Array.replicate N .null, vm := .none } : Cell) = H1
  have z1 : H1.size = H.size + 1 := by rw [← hH1, Array.size_push]
  have e1 : H1[H.size]? = some (arrV cA N (fun _ => .null)) := by rw [← hH1, Array.getElem?_push_size, ← arrV_new]
  have o1 : ∀ q : Nat, q < H.size → H1[q]? = H[q]? := fun q hq => by rw [← hH1, Array.getElem?_push, if_neg (Nat.ne_of_lt hq)]
  have hcA : cA = cy.1 3 := by
    obtain ⟨kA', comp', k1, k2, k3, k4⟩ := (hK.1.2 3 _ rfl).2
    exact Option.some.inj (f1.symm.trans k4)
  subst hcA
  have hRp' : ax_Rep G cy b (n + 1) (hp h n (ax_R 3 N (fun _ => none))) H1 := hRp.push z1 e1 o1
  rw [hz]
  exact kk p e s m args below meth c Q H1 locs ls E hK hR hRp' ⟨Nat.le_trans hS.1 (by omega), fun x h1 h2 => (o1 x (Nat.lt_of_lt_of_le h1 hS.1)).trans (hS.2.1 x h1 h2), hS.2.2⟩ hb hl
theorem xt_anew4 {x : Int32} {index : Nat} (N : Nat) (hx : x = nI N) (hN : N ≤ 1000) (hw : Cond.classLink own index RX4 ∈ ax_Tb) (hcells : cells + 1 ≤ R.cells) (hslots : slots + N ≤ R.slots) (hd : decode cc pc = .ok (.anewarray index, 3)) (kk : ax_T l G cy b R own nm cc nL ret K mc ms (pc + 3) lv (.ref n :: st) (hp h n (ax_R 4 N (fun _ => none))) (n + 1) (cells + 1) (slots + N)) : ax_T l G cy b R own nm cc nL ret K mc ms pc lv (.int x :: st) h n cells slots := by
  intro p e s m args below meth c Q H locs ls E hK hR hRp hS hb hl
  subst hx
  have hz : H.size = b + n := hRp.1
  have hcN : (nI N).toNatClampNeg = N := nI_clamp (by omega)
  refine W.anew E.1 E.2.1 E.2.2.2.1 (E.2.2.2.2.1 _ hw) (va_AO.use hK.2.2.1.2.1) rfl hd rfl (nI_pos (by omega)) (by rw [hcN]; omega) hcells (by rw [hcN]; exact hslots) fun cA kA comp f1 f2 f3 f4 => ?_
  rw [hcN]
  generalize hH1 : H.push ({ cls := cA, slots := Array.replicate N .null, vm := .none } : Cell) = H1
  have z1 : H1.size = H.size + 1 := by rw [← hH1, Array.size_push]
  have e1 : H1[H.size]? = some (arrV cA N (fun _ => .null)) := by rw [← hH1, Array.getElem?_push_size, ← arrV_new]
  have o1 : ∀ q : Nat, q < H.size → H1[q]? = H[q]? := fun q hq => by rw [← hH1, Array.getElem?_push, if_neg (Nat.ne_of_lt hq)]
  have hcA : cA = cy.1 4 := by
    obtain ⟨kA', comp', k1, k2, k3, k4⟩ := (hK.1.2 4 _ rfl).2
    exact Option.some.inj (f1.symm.trans k4)
  subst hcA
  have hRp' : ax_Rep G cy b (n + 1) (hp h n (ax_R 4 N (fun _ => none))) H1 := hRp.push z1 e1 o1
  rw [hz]
  exact kk p e s m args below meth c Q H1 locs ls E hK hR hRp' ⟨Nat.le_trans hS.1 (by omega), fun x h1 h2 => (o1 x (Nat.lt_of_lt_of_le h1 hS.1)).trans (hS.2.1 x h1 h2), hS.2.2⟩ hb hl
theorem xt_anew5 {x : Int32} {index : Nat} (N : Nat) (hx : x = nI N) (hN : N ≤ 1000) (hw : Cond.classLink own index RX5 ∈ ax_Tb) (hcells : cells + 1 ≤ R.cells) (hslots : slots + N ≤ R.slots) (hd : decode cc pc = .ok (.anewarray index, 3)) (kk : ax_T l G cy b R own nm cc nL ret K mc ms (pc + 3) lv (.ref n :: st) (hp h n (ax_R 5 N (fun _ => none))) (n + 1) (cells + 1) (slots + N)) : ax_T l G cy b R own nm cc nL ret K mc ms pc lv (.int x :: st) h n cells slots := by
  intro p e s m args below meth c Q H locs ls E hK hR hRp hS hb hl
  subst hx
  have hz : H.size = b + n := hRp.1
  have hcN : (nI N).toNatClampNeg = N := nI_clamp (by omega)
  refine W.anew E.1 E.2.1 E.2.2.2.1 (E.2.2.2.2.1 _ hw) (va_AO.use hK.2.2.1.2.2) rfl hd rfl (nI_pos (by omega)) (by rw [hcN]; omega) hcells (by rw [hcN]; exact hslots) fun cA kA comp f1 f2 f3 f4 => ?_
  rw [hcN]
  generalize hH1 : H.push ({ cls := cA, slots := Array.replicate N .null, vm := .none } : Cell) = H1
  have z1 : H1.size = H.size + 1 := by rw [← hH1, Array.size_push]
  have e1 : H1[H.size]? = some (arrV cA N (fun _ => .null)) := by rw [← hH1, Array.getElem?_push_size, ← arrV_new]
  have o1 : ∀ q : Nat, q < H.size → H1[q]? = H[q]? := fun q hq => by rw [← hH1, Array.getElem?_push, if_neg (Nat.ne_of_lt hq)]
  have hcA : cA = cy.1 5 := by
    obtain ⟨kA', comp', k1, k2, k3, k4⟩ := (hK.1.2 5 _ rfl).2
    exact Option.some.inj (f1.symm.trans k4)
  subst hcA
  have hRp' : ax_Rep G cy b (n + 1) (hp h n (ax_R 5 N (fun _ => none))) H1 := hRp.push z1 e1 o1
  rw [hz]
  exact kk p e s m args below meth c Q H1 locs ls E hK hR hRp' ⟨Nat.le_trans hS.1 (by omega), fun x h1 h2 => (o1 x (Nat.lt_of_lt_of_le h1 hS.1)).trans (hS.2.1 x h1 h2), hS.2.2⟩ hb hl
end AXI
