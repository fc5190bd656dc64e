/-! THE ABSTRACT MACHINE: cells by their number since the law's start ('ax_' : ids instead of addresses; the address of id i is b + i); contracts ax_C and the walk ax_T over a heap that is a function of ids. -/
abbrev ax_E : Type := (Nat × vp_A) ⊕ (Nat × List Value)
abbrev ax_H : Type := Nat → Option ax_E
/-- array classes; the String constant's cell and its bytes' cell; the script's cell, its length, its ints -/
abbrev ax_Y : Type := (Nat → ClassId) × Nat × Nat × Nat × Nat × (Nat → Int32)
/-- an array of ints, of longs, of chars; an array of references of class tag t; an object of class ci -/
abbrev ax_I (n : Nat) (f : Nat → Int32) : ax_E := .inl (0, n, .inl f)
abbrev ax_L (n : Nat) (f : Nat → Int64) : ax_E := .inl (1, n, .inr (.inl f))
abbrev ax_B (n : Nat) (f : Nat → Int32) : ax_E := .inl (2, n, .inl f)
abbrev ax_R (t n : Nat) (f : Nat → Option Nat) : ax_E := .inl (t, n, .inr (.inr (.inr (.inr f))))
abbrev ax_O (ci : Nat) (fs : List Value) : ax_E := .inr (ci, fs)
def ax_v (b : Nat) (v : Value) : Value := match v with
  | .ref i => .ref (b + i)
  | .retAddr a => .ref a
  | .int x => .int x
  | .long x => .long x
  | .float x => .float x
  | .double x => .double x
  | .null => .null
def ax_a (b : Nat) (a : vp_A) : vp_A := match a with
  | (n, .inl f) => (n, .inl f)
  | (n, .inr (.inl f)) => (n, .inr (.inl f))
  | (n, .inr (.inr (.inl f))) => (n, .inr (.inr (.inl f)))
  | (n, .inr (.inr (.inr (.inl f)))) => (n, .inr (.inr (.inr (.inl f))))
  | (n, .inr (.inr (.inr (.inr f)))) => (n, .inr (.inr (.inr (.inr (fun j => (f j).map (fun i => b + i))))))
def ax_e (cy : ax_Y) (b : Nat) (x : ax_E) : va_E := match x with
  | .inl (t, a) => .inl (cy.1 t, ax_a b a)
  | .inr (ci, fs) => .inr (ci, fs.map (ax_v b))
def hp (h : ax_H) (i : Nat) (x : ax_E) : ax_H := fun j => if j = i then some x else h j
theorem hp_s (h : ax_H) (i : Nat) (x : ax_E) : hp h i x i = some x := by simp [hp]
theorem hp_n (h : ax_H) {i j : Nat} (x : ax_E) (hj : j ≠ i) : hp h i x j = h j := by simp [hp, hj]
theorem hp_hp (h : ax_H) (i : Nat) (x y : ax_E) : hp (hp h i x) i y = hp h i y := by
  funext j; by_cases hj : j = i <;> simp [hp, hj]
theorem hp_id (h : ax_H) {i : Nat} {x : ax_E} (hi : h i = some x) : hp h i x = h := by
  funext j; by_cases hj : j = i
  · subst hj; simp [hp, hi]
  · simp [hp, hj]
theorem hp_comm (h : ax_H) {i j : Nat} (x y : ax_E) (hij : i ≠ j) : hp (hp h i x) j y = hp (hp h j y) i x := by
  funext k
  by_cases h1 : k = i
  · subst h1; simp [hp, hij]
  · by_cases h2 : k = j
    · subst h2; simp [hp, h1]
    · simp [hp, h1, h2]
def ax_tys (cy : ax_Y) : List (ClassId × FieldType) := [(cy.1 0, .int), (cy.1 1, .long), (cy.1 2, .char), (cy.1 3, .object RX2), (cy.1 4, .object RX4), (cy.1 5, .object RX5)]
def ax_Tb : List Cond := lw_tbl.filter goodWord
def ax_isN (w : Cond) : Bool := match w with
  | .fieldLinkNest _ _ _ _ _ _ => true
  | .methodLinkNest _ _ _ _ => true
  | _ => false
def ax_Nw : List Cond := tables_1.filter ax_isN
def ax_Z (b : Nat) (cy : ax_Y) (s : State) : Prop := vk_S 1 [5] [[108, 102, 101, 99, 114]] (fun _ => cy.2.1) (fun _ => cy.2.2.1) (fun q => b ≤ q) s s.heap ∧ vk_R RX3 48 "lfecr" cy.2.1 s ∧ va_Z "java/lang/String" "COMPACT_STRINGS" "Z" (.int 1) (fun q => b ≤ q) s s.heap ∧ (va_X cy.2.2.2.1 cy.2.2.2.2.1 cy.2.2.2.2.2 s s.heap ∧ cy.2.2.2.1 < s.heap.size ∧ ¬ b ≤ cy.2.2.2.1)
def ax_K (G : va_G) (cy : ax_Y) (b : Nat) (s : State) : Prop := va_K G vwCl (ax_tys cy) s ∧ (∀ w ∈ ax_Nw, va_Nw w s) ∧ (va_AO RX2 s ∧ va_AO RX4 s ∧ va_AO RX5 s) ∧ ax_Z b cy s
theorem ax_lt {H H1 : Heap} {q : Nat} (e : H1[q]? = H[q]?) (h : q < H.size) : q < H1.size := by
  rcases Nat.lt_or_ge q H1.size with z | z
  · exact z
  · rw [Array.getElem?_eq_none z, Array.getElem?_eq_getElem h] at e
    cases e
theorem ax_K.moved {G : va_G} {cy : ax_Y} {b : Nat} {s U : State} (hW : s.WarmedH U.vm) (hh : ∀ q : Nat, q < s.heap.size → ¬ b ≤ q → U.heap[q]? = s.heap[q]?) (h : ax_K G cy b s) : ax_K G cy b U := by
  obtain ⟨h1, h2, ⟨h3, h4, h5⟩, z1, z2, z3, z4, z5, z6⟩ := h
  refine ⟨va_K.moved hW.alike h1, fun w hw => ?_, ⟨va_AO.moved hW.alike h3, va_AO.moved hW.alike h4, va_AO.moved hW.alike h5⟩, (vk_S.moved hW.alike z1).kept hh, vk_R.warm hW z2, (va_Z.moved hW.alike z3).kept hh, (va_X.moved hW.alike z4).kept (hh _ z5 z6), ax_lt (hh _ z5 z6) z5, z6⟩
  have hn : ax_isN w = true := (List.mem_filter.mp hw).2
  have hz := h2 w hw
  cases w <;> first | exact va_Nw.warmF hW hz | exact va_Nw.warmM hW hz | (simp [ax_isN] at hn)
theorem ax_K.call {G : va_G} {cy : ax_Y} {b : Nat} {U : State} {g : JFrame} {mk : MethodId} {a : Array Value} (h : ax_K G cy b U) : ax_K G cy b (U.calling g mk a) := by
  obtain ⟨h1, h2, ⟨h3, h4, h5⟩, z1, z2, z3, z4, z5, z6⟩ := h
  refine ⟨va_K.moved (u := U) (U := U.calling g mk a) (Vm.Alike.refl U.vm) h1, fun w hw => ?_, ⟨va_AO.moved (u := U) (U := U.calling g mk a) (Vm.Alike.refl U.vm) h3, va_AO.moved (u := U) (U := U.calling g mk a) (Vm.Alike.refl U.vm) h4, va_AO.moved (u := U) (U := U.calling g mk a) (Vm.Alike.refl U.vm) h5⟩, vk_S.moved (u := U) (U := U.calling g mk a) (Vm.Alike.refl U.vm) z1, vk_R.same (u := U) (U := U.calling g mk a) rfl z2, va_Z.moved (u := U) (U := U.calling g mk a) (Vm.Alike.refl U.vm) z3, va_X.moved (u := U) (U := U.calling g mk a) (Vm.Alike.refl U.vm) z4, z5, z6⟩
  have hn : ax_isN w = true := (List.mem_filter.mp hw).2
  have hz := h2 w hw
  cases w <;> first | exact va_Nw.same (u := U) (U := U.calling g mk a) rfl rfl hz | (simp [ax_isN] at hn)
def ax_Rep (G : va_G) (cy : ax_Y) (b n : Nat) (h : ax_H) (H : Heap) : Prop := H.size = b + n ∧ ∀ (i : Nat) (x : ax_E), h i = some x → va_at G vwCl (b + i, ax_e cy b x) H
theorem ax_Rep.set {G : va_G} {cy : ax_Y} {b n : Nat} {h : ax_H} {H H1 : Heap} {i : Nat} {x : ax_E} (hR : ax_Rep G cy b n h H) (hz : H1.size = H.size) (he : va_at G vwCl (b + i, ax_e cy b x) H1) (oq : ∀ q : Nat, q ≠ b + i → H1[q]? = H[q]?) : ax_Rep G cy b n (hp h i x) H1 := by
  refine ⟨by rw [hz]; exact hR.1, fun j y hj => ?_⟩
  by_cases hji : j = i
  · subst hji
    simp [hp] at hj
    subst hj
    exact he
  · rw [hp_n h x hji] at hj
    exact (hR.2 j y hj).kept (oq _ (by show b + j ≠ b + i; omega))
theorem ax_Rep.push {G : va_G} {cy : ax_Y} {b n : Nat} {h : ax_H} {H H1 : Heap} {x : ax_E} (hR : ax_Rep G cy b n h H) (hz : H1.size = H.size + 1) (he : va_at G vwCl (H.size, ax_e cy b x) H1) (oq : ∀ q : Nat, q < H.size → H1[q]? = H[q]?) : ax_Rep G cy b (n + 1) (hp h n x) H1 := by
  refine ⟨by rw [hz, hR.1]; omega, fun j y hj => ?_⟩
  by_cases hji : j = n
  · subst hji
    simp [hp] at hj
    subst hj
    rw [← hR.1]
    exact he
  · rw [hp_n h x hji] at hj
    have := hR.2 j y hj
    exact this.kept (oq _ this.lt)
def ax_hasL (b : Nat) (ls : Array Slot) (nL : Nat) (lv : List (Option Value)) : Prop := ls.size = nL ∧ lv_wf ls ∧ ∀ (i : Nat) (v : Value), lv[i]? = some (some v) → ls[i]? = some (.val (ax_v b v))
def ax_asc (b : Nat) (lv : List (Option Value)) : List (Nat × Value) := (List.range lv.length).filterMap (fun i => match lv[i]? with
  | some (some v) => some (i, ax_v b v)
  | _ => none)
theorem ax_asc_mem {b : Nat} {lv : List (Option Value)} {q : Nat × Value} : q ∈ ax_asc b lv ↔ ∃ v, lv[q.1]? = some (some v) ∧ q.2 = ax_v b v := by
  unfold ax_asc
  rw [List.mem_filterMap]
  constructor
  · rintro ⟨i, hi, h⟩
    split at h
    · rename_i v hv
      cases h
      exact ⟨v, hv, rfl⟩
    · cases h
  · rintro ⟨v, hv, h2⟩
    refine ⟨q.1, List.mem_range.mpr (List.getElem?_eq_some_iff.mp hv).1, ?_⟩
    rw [hv]
    show some (q.1, ax_v b v) = some q
    rw [← h2]
theorem ax_hasL.has {b : Nat} {ls : Array Slot} {nL : Nat} {lv : List (Option Value)} (h : ax_hasL b ls nL lv) : lv_has ls nL (ax_asc b lv) :=
  ⟨h.1, h.2.1, fun q hq => by obtain ⟨v, h1, h2⟩ := ax_asc_mem.mp hq; rw [h2]; exact h.2.2 _ _ h1⟩
theorem ax_vcat (b : Nat) (v : Value) (hv : ∀ a, v ≠ .retAddr a) : (ax_v b v).category = v.category := by cases v <;> first | rfl | exact absurd rfl (hv _)
theorem ax_vcat' (b : Nat) (v : Value) : (ax_v b v).category = v.category := by cases v <;> rfl
def ax_okst (lv : List (Option Value)) (i : Nat) : Bool := match i with
  | 0 => true
  | k + 1 => match lv[k]? with
    | some (some v) => v.category == 1
    | _ => true
theorem ax_st1 {b : Nat} {ls' : Array Slot} {nL i : Nat} {lv : List (Option Value)} {v : Value} (hok : ax_okst lv i = true)
    (h : lv_has ls' nL ((i, ax_v b v) :: (ax_asc b lv).filter (fun q => !(q.1 == i) && !(q.1 + 1 == i && q.2.category == 2)))) : ax_hasL b ls' nL (lv.set i (some v)) := by
  refine ⟨h.1, h.2.1, fun j w hj => ?_⟩
  by_cases hji : j = i
  · subst hji
    rw [List.getElem?_set] at hj
    simp at hj
    obtain ⟨-, rfl⟩ := hj
    exact h.2.2 (j, ax_v b v) List.mem_cons_self
  · rw [List.getElem?_set_ne (Ne.symm hji)] at hj
    refine h.2.2 (j, ax_v b w) (List.mem_cons_of_mem _ (List.mem_filter.mpr ⟨ax_asc_mem.mpr ⟨w, hj, rfl⟩, ?_⟩))
    simp only [Bool.and_eq_true, Bool.not_eq_true', beq_eq_false_iff_ne, ne_eq, Bool.and_eq_false_iff]
    refine ⟨hji, ?_⟩
    by_cases h1 : j + 1 = i
    · right
      subst h1
      simp only [ax_okst, hj, beq_iff_eq] at hok
      rw [ax_vcat', hok]
      decide
    · left; exact h1
theorem ax_st2 {b : Nat} {ls' : Array Slot} {nL i : Nat} {lv : List (Option Value)} {v : Value} (hok : ax_okst lv i = true)
    (h : lv_has ls' nL ((i, ax_v b v) :: (ax_asc b lv).filter (fun q => !(q.1 == i) && (!(q.1 == i + 1) && !(q.1 + 1 == i && q.2.category == 2))))) : ax_hasL b ls' nL ((lv.set i (some v)).set (i + 1) none) := by
  refine ⟨h.1, h.2.1, fun j w hj => ?_⟩
  by_cases hj1 : j = i + 1
  · subst hj1
    rw [List.getElem?_set] at hj
    simp at hj
  · rw [List.getElem?_set_ne (Ne.symm hj1)] at hj
    by_cases hji : j = i
    · subst hji
      rw [List.getElem?_set] at hj
      simp at hj
      obtain ⟨-, rfl⟩ := hj
      exact h.2.2 (j, ax_v b v) List.mem_cons_self
    · rw [List.getElem?_set_ne (Ne.symm hji)] at hj
      refine h.2.2 (j, ax_v b w) (List.mem_cons_of_mem _ (List.mem_filter.mpr ⟨ax_asc_mem.mpr ⟨w, hj, rfl⟩, ?_⟩))
      simp only [Bool.and_eq_true, Bool.not_eq_true', beq_eq_false_iff_ne, ne_eq, Bool.and_eq_false_iff]
      refine ⟨hji, hj1, ?_⟩
      by_cases h1 : j + 1 = i
      · right
        subst h1
        simp only [ax_okst, hj, beq_iff_eq] at hok
        rw [ax_vcat', hok]
        decide
      · left; exact h1
def ax_Ev (p : Program) (s : State) (m : MethodId) (args : Array Value) (meth : Method) (c : Code) (own nm : String) (cc : ByteArray) (nL : Nat) (ret : Option FieldType) : Prop :=
  p.tables.exec = Jvm.exec ∧ c.code = cc ∧ c.maxLocals = nL ∧ s.vm.findClass own = some m.cls ∧ (∀ w ∈ ax_Tb, w.before args s = true) ∧ meth.sig.returnType = ret ∧ meth.locks = false ∧ meth.name = nm
def ax_Rd (cc : ByteArray) (pc : Nat) (v : Option Value) : Prop := match v with
  | none => decode cc pc = .ok (.return_, 1)
  | some (.int _) => decode cc pc = .ok (.ireturn, 1)
  | some (.long _) => decode cc pc = .ok (.lreturn, 1)
  | _ => False
def ax_Rn (ret : Option FieldType) (v : Option Value) : Prop := match v with
  | none => ret = none
  | some (.int x) => ∃ ty, ret = some ty ∧ narrow ty (.int x) = .int x
  | some (.long _) => ret = some .long
  | _ => False
def ax_Rok (p : Program) (l : Launch) (e : Env) (R : Room) (s : State) (m : MethodId) (args : Array Value) (below : List Frame) (meth : Method) (c : Code) (G : va_G) (cy : ax_Y) (b : Nat) (cc : ByteArray) (ret : Option FieldType) (K : Option Value → ax_H → Nat → Prop) (mc ms : Nat) (Q : State → Prop) : Prop :=
  ∀ (v : Option Value) (h : ax_H) (n : Nat) (H : Heap) (locs : List Loc) (pc : Nat) (ls : Array Slot), K v h n → ax_Rd cc pc v → ax_Rn ret v → ax_Rep G cy b n h H → va_S (fun q => b ≤ q) s.heap H locs → W p l e R s m args below meth c H locs mc ms Q (F0 m pc ls (v.toList.map (ax_v b)))
/-- THE WALK: from pc on, with these locals, this stack, this heap, the method comes to its end with K -/
def ax_T (l : Launch) (G : va_G) (cy : ax_Y) (b : Nat) (R : Room) (own nm : String) (cc : ByteArray) (nL : Nat) (ret : Option FieldType) (K : Option Value → ax_H → Nat → Prop) (mc ms : Nat) (pc : Nat) (lv : List (Option Value)) (st : List Value) (h : ax_H) (n cells slots : Nat) : Prop :=
  ∀ (p : Program) (e : Env) (s : State) (m : MethodId) (args : Array Value) (below : List Frame) (meth : Method) (c : Code) (Q : State → Prop) (H : Heap) (locs : List Loc) (ls : Array Slot),
    ax_Ev p s m args meth c own nm cc nL ret → ax_K G cy b s → ax_Rok p l e R s m args below meth c G cy b cc ret K mc ms Q → ax_Rep G cy b n h H → va_S (fun q => b ≤ q) s.heap H locs → b ≤ s.heap.size → ax_hasL b ls nL lv →
    W p l e R s m args below meth c H locs cells slots Q (F0 m pc ls (st.map (ax_v b)))
def ax_rm (d mc ms : Nat) : Room := { frames := d, cells := mc, slots := ms, locals := 34 * d }
/-- THE CONTRACT of y at one launch: with these arguments and this heap it returns, and K of its answer, the heap behind it and how many cells there are -/
def ax_CM (l : Launch) (G : va_G) (cy : ax_Y) (b : Nat) (y : MethodName) (cc : ByteArray) (nL : Nat) (ret : Option FieldType) (d mc ms : Nat) (as : List Value) (h : ax_H) (n : Nat) (K : Option Value → ax_H → Nat → Prop) : Prop :=
  Met l y (Cond.code y cc nL ret :: ax_Tb) (ax_rm d mc ms) (fun a U => a = (as.map (ax_v b)).toArray ∧ b ≤ U.heap.size ∧ ax_Rep G cy b n h U.heap ∧ ax_K G cy b U)
    (fun _ st o t => ∃ (v : Option Value) (h' : ax_H) (n' : Nat), o = .returned (v.map (ax_v b)) ∧ K v h' n' ∧ ax_Rep G cy b n' h' t.heap ∧ st.heap.size ≤ t.heap.size ∧ ∀ q : Nat, q < st.heap.size → ¬ b ≤ q → t.heap[q]? = st.heap[q]?) mc ms (fun q => b ≤ q)
def ax_C (y : MethodName) (cc : ByteArray) (nL : Nat) (ret : Option FieldType) (d mc ms : Nat) (as : List Value) (h : ax_H) (n : Nat) (K : Option Value → ax_H → Nat → Prop) : Prop :=
  ∀ (l : Launch) (G : va_G) (cy : ax_Y) (b : Nat), ax_CM l G cy b y cc nL ret d mc ms as h n K
def ax_lv0 (as : List Value) : List (Option Value) := match as with
  | [] => []
  | v :: vs => if v.category = 2 then some v :: none :: ax_lv0 vs else some v :: ax_lv0 vs
def ax_lv (as : List Value) (nL : Nat) : List (Option Value) := ax_lv0 as ++ List.replicate (nL - (ax_lv0 as).length) none
theorem ax_lv0_mem (b : Nat) : ∀ (as : List Value) (k i : Nat) (v : Value), (ax_lv0 as)[i]? = some (some v) → (k + i, ax_v b v) ∈ lv_args k (as.map (ax_v b))
  | [], k, i, v, h => by simp [ax_lv0] at h
  | w :: ws, k, i, v, h => by
    rw [ax_lv0] at h
    show (k + i, ax_v b v) ∈ (k, ax_v b w) :: lv_args (if (ax_v b w).category = 2 then k + 2 else k + 1) (ws.map (ax_v b))
    rw [ax_vcat']
    by_cases hw : w.category = 2
    · rw [if_pos hw] at h ⊢
      match i, h with
      | 0, h => simp at h; subst h; exact List.mem_cons_self
      | 1, h => simp at h
      | i + 2, h =>
        have := ax_lv0_mem b ws (k + 2) i v (by simpa using h)
        rw [show k + (i + 2) = k + 2 + i by omega]
        exact List.mem_cons_of_mem _ this
    · rw [if_neg hw] at h ⊢
      match i, h with
      | 0, h => simp at h; subst h; exact List.mem_cons_self
      | i + 1, h =>
        have := ax_lv0_mem b ws (k + 1) i v (by simpa using h)
        rw [show k + (i + 1) = k + 1 + i by omega]
        exact List.mem_cons_of_mem _ this
theorem ax_sl_len (b : Nat) : ∀ as : List Value, (lg_sl (as.map (ax_v b))).length = (ax_lv0 as).length
  | [] => rfl
  | w :: ws => by
    have ih := ax_sl_len b ws
    rw [ax_lv0]
    by_cases hw : w.category = 2
    · have hw' : (ax_v b w).category = 2 := by rw [ax_vcat']; exact hw
      simp only [lg_sl, List.map_cons, List.flatMap_cons, hw', hw, if_true, List.length_append, List.length_cons, List.length_nil] at ih ⊢
      omega
    · have hw' : ¬ (ax_v b w).category = 2 := by rw [ax_vcat']; exact hw
      simp only [lg_sl, List.map_cons, List.flatMap_cons, hw', hw, if_false, List.length_append, List.length_cons, List.length_nil] at ih ⊢
      omega
theorem ax_CM.of {l : Launch} {G : va_G} {cy : ax_Y} {b : Nat} {y : MethodName} {cc : ByteArray} {nL : Nat} {ret : Option FieldType} {d mc ms : Nat} {as : List Value} {h : ax_H} {n : Nat} {K : Option Value → ax_H → Nat → Prop} {lv : List (Option Value)}
    (hy : plainName y.cls = true) (hlen : (ax_lv0 as).length ≤ nL) (hlv : ax_lv as nL = lv)
    (body : ax_T l G cy b (ax_rm d mc ms) y.cls y.name cc nL ret K mc ms 0 lv [] h n 0 0) : ax_CM l G cy b y cc nL ret d mc ms as h n K := by
  refine Met.ofW (cc := cc) (maxL := nL) (ret := ret) hy rfl ?_
  intro p e s m args below meth c s₁ B hml hv
  obtain ⟨rfl, hbs, hR, hK⟩ := hv
  have hts := atoms_spec (ws := Cond.code y cc nL ret :: ax_Tb) B.pre
  have hown : s.vm.findClass y.cls = some m.cls := findClass_of_methodNamed B.named
  have hin : meth.name = y.name := (name_of_methodNamed B.named B.method).1
  have hr : meth.sig.returnType = ret := B.returns
  have hlocks := B.notSynchronized
  have hx := B.exec
  have hb := B.bytes
  rw [lg_entry_eq]
  have hl := lv_entry (as.map (ax_v b)) (n := nL) (by rw [ax_sl_len]; exact hlen)
  refine body p e s m _ below meth c _ s.heap [] _ ⟨hx, hb, hml, hown, fun w hw => hts w (List.mem_cons_of_mem _ hw), hr, hlocks, hin⟩ hK ?_ hR va_S.rf hbs ?_
  · intro v h' n' H' locs pc ls hKv hd hn hRep hS
    cases v with
    | none =>
      exact W.vret hx hb (hr.trans hn) (fun t ht hW => ⟨none, h', n', rfl, hKv, by rw [ht]; exact hRep, by rw [ht]; exact hS.1, fun q q1 q2 => by rw [ht]; exact hS.2.1 q q1 q2⟩) hS.2.2 hd hlocks
    | some w =>
      cases w with
      | int x =>
        obtain ⟨ty, ht1, ht2⟩ := hn
        exact W.zret hx hb (hr.trans ht1) ht2 (fun t ht hW => ⟨some (.int x), h', n', rfl, hKv, by rw [ht]; exact hRep, by rw [ht]; exact hS.1, fun q q1 q2 => by rw [ht]; exact hS.2.1 q q1 q2⟩) hS.2.2 hd hlocks
      | long x =>
        exact W.lret hx hb (hr.trans hn) (fun t ht hW => ⟨some (.long x), h', n', rfl, hKv, by rw [ht]; exact hRep, by rw [ht]; exact hS.1, fun q q1 q2 => by rw [ht]; exact hS.2.1 q q1 q2⟩) hS.2.2 hd hlocks
      | _ => exact absurd hd (fun h => h)
  · refine ⟨hl.1, hl.2.1, fun i v hi => ?_⟩
    rw [← hlv] at hi
    have h0 : (ax_lv0 as)[i]? = some (some v) := by
      unfold ax_lv at hi
      by_cases hlt : i < (ax_lv0 as).length
      · rwa [List.getElem?_append_left hlt] at hi
      · rw [List.getElem?_append_right (by omega), List.getElem?_replicate] at hi
        split at hi <;> cases hi
    have hm := ax_lv0_mem b as 0 i v h0
    rw [Nat.zero_add] at hm
    exact hl.2.2 _ hm
theorem ax_C.of {y : MethodName} {cc : ByteArray} {nL : Nat} {ret : Option FieldType} {d mc ms : Nat} {as : List Value} {h : ax_H} {n : Nat} {K : Option Value → ax_H → Nat → Prop} {lv : List (Option Value)}
    (hy : plainName y.cls = true) (hlen : (ax_lv0 as).length ≤ nL) (hlv : ax_lv as nL = lv)
    (body : ∀ (l : Launch) (G : va_G) (cy : ax_Y) (b : Nat), ax_T l G cy b (ax_rm d mc ms) y.cls y.name cc nL ret K mc ms 0 lv [] h n 0 0) : ax_C y cc nL ret d mc ms as h n K :=
  fun l G cy b => ax_CM.of hy hlen hlv (body l G cy b)
