/-! what holds at the law's entry, told as the machine's words -/
theorem ao_arr {s : State} {C : String} {args : Array Value} (h : (Cond.arrayOver (.object C)).before args s = true) : ∃ c : ClassId, ArrOfT s c (.object C) ∧ va_RA s c (.object C) := by
  obtain ⟨comp, c, k, h1, -, h3, h4, h5⟩ := Cond.arrayOver_spec h
  exact ⟨c, fun n z => ⟨fun k h => (by cases h), k, h3, comp, h4⟩, k, comp, h3, h4, h1, h5⟩
theorem ac_arr {s : State} {ty : FieldType} {args : Array Value} (h : (Cond.arrayClass ty).before args s = true) : ∃ c : ClassId, ArrOfT s c ty ∧ s.vm.findClass ("[" ++ ty.toString) = some c := by
  obtain ⟨c, k, comp, h1, h2, h3⟩ := Cond.arrayClass_spec h
  exact ⟨c, fun n z => ⟨fun k h => (by cases h), k, h2, comp, h3⟩, h1⟩
set_option maxHeartbeats 1000000 in
set_option maxRecDepth 100000 in
theorem ax_start {s : State} {b L : Nat} {xs : Nat → Int32} (hts : ∀ w ∈ lw_tbl, w.before #[Value.ref b] s = true) (hX : va_X b L xs s s.heap) (hbl : b < s.heap.size) (hgv : (Jvm.Cond.and given_1 narrow_1).before #[Value.ref b] s = true) : ∃ (G : va_G) (ar : Nat → ClassId) (k v : Nat), ax_K G (ar, k, v, b, L, xs) s.heap.size s := by
  have htb : ∀ w ∈ ax_Tb, w.before #[Value.ref b] s = true := fun w hw => hts w (List.mem_filter.mp hw).1
  have hs := flat_of_before _ hgv
  have hA : ∀ a : Nat, a < s.heap.size → ¬ (fun q : Nat => s.heap.size ≤ q) a := fun a h1 h2 => absurd h1 (Nat.not_lt.mpr h2)
  obtain ⟨c0, i0, n0⟩ := u_known (C := RX0) (T := TX0) (N := 2) (n := 2) htb inTX0 (htb _ mw604)
  obtain ⟨c1, i1, n1⟩ := u_known (C := RX1) (T := TX1) (N := 2) (n := 2) htb inTX1 (htb _ mw113)
  obtain ⟨c2, i2, n2⟩ := u_known (C := RX2) (T := TX2) (N := 10) (n := 10) htb inTX2 (htb _ mw33)
  obtain ⟨c3, i3, n3⟩ := u_known (C := RX3) (T := TX3) (N := 6) (n := 6) htb inTX3 (htb _ mw159)
  obtain ⟨c4, i4, n4⟩ := u_known (C := RX4) (T := TX4) (N := 4) (n := 4) htb inTX4 (htb _ mw192)
  obtain ⟨c5, i5, n5⟩ := u_known (C := RX5) (T := TX5) (N := 7) (n := 7) htb inTX5 (htb _ mw26)
  obtain ⟨c6, i6, n6⟩ := u_known (C := RX6) (T := TX6) (N := 6) (n := 6) htb inTX6 (htb _ mw130)
  obtain ⟨c7, i7, n7⟩ := u_known (C := RX7) (T := TX7) (N := 9) (n := 9) htb inTX7 (htb _ mw18)
  obtain ⟨c8, i8, n8⟩ := u_known (C := RX8) (T := TX8) (N := 16) (n := 16) htb inTX8 (htb _ mw736)
  obtain ⟨G, hG⟩ : ∃ G : va_G, ∀ (c : Nat) (q : vw_C), vwCl[c]? = some q → u_Kn s q.1 q.2.1 q.2.2 (G.1 c) (G.2 c) := by
    refine ⟨(fun k => if k = 0 then c0 else if k = 1 then c1 else if k = 2 then c2 else if k = 3 then c3 else if k = 4 then c4 else if k = 5 then c5 else if k = 6 then c6 else if k = 7 then c7 else c8, fun k => if k = 0 then i0 else if k = 1 then i1 else if k = 2 then i2 else if k = 3 then i3 else if k = 4 then i4 else if k = 5 then i5 else if k = 6 then i6 else if k = 7 then i7 else i8), ?_⟩
    intro k q hq
    match k, hq with
    | 0, hq => cases hq; exact n0
    | 1, hq => cases hq; exact n1
    | 2, hq => cases hq; exact n2
    | 3, hq => cases hq; exact n3
    | 4, hq => cases hq; exact n4
    | 5, hq => cases hq; exact n5
    | 6, hq => cases hq; exact n6
    | 7, hq => cases hq; exact n7
    | 8, hq => cases hq; exact n8
    | k + 9, hq => simp at hq
  obtain ⟨a0, p0, r0⟩ := ac_arr (hts _ (List.mem_append_right _ (List.mem_of_getElem? (i := 77) (by decide +kernel))) : (Cond.arrayClass .int).before _ s = true)
  obtain ⟨a1, p1, r1⟩ := ac_arr (hts _ (List.mem_append_right _ (List.mem_of_getElem? (i := 214) (by decide +kernel))) : (Cond.arrayClass .long).before _ s = true)
  obtain ⟨a2, p2, r2⟩ := ac_arr (hts _ (List.mem_append_right _ (List.mem_of_getElem? (i := 189) (by decide +kernel))) : (Cond.arrayClass .char).before _ s = true)
  have o3 : (Cond.arrayOver (.object RX2)).before #[Value.ref b] s = true := hts _ (List.mem_append_right _ (List.mem_of_getElem? (i := 32) (by decide +kernel)))
  have o4 : (Cond.arrayOver (.object RX4)).before #[Value.ref b] s = true := hts _ (List.mem_append_right _ (List.mem_of_getElem? (i := 191) (by decide +kernel)))
  have o5 : (Cond.arrayOver (.object RX5)).before #[Value.ref b] s = true := hts _ (List.mem_append_right _ (List.mem_of_getElem? (i := 119) (by decide +kernel)))
  obtain ⟨a3, p3⟩ := ao_arr o3
  obtain ⟨a4, p4⟩ := ao_arr o4
  obtain ⟨a5, p5⟩ := ao_arr o5
  obtain ⟨adK, adV, hS, hE⟩ := vk_Sof (args := #[Value.ref b]) (s := s) (N := 1) (tm := fun _ => Term.string "PulsedAxes$Reader" 48) (len := [5]) (byt := [[108, 102, 101, 99, 114]]) (A := fun q => s.heap.size ≤ q) (fun i hi => by
      obtain rfl : i = 0 := by omega
      decide) (fun i hi => hs _ (by decide +kernel)) (fun i hi => hs _ (by decide +kernel)) (fun i hi => hs _ (by decide +kernel)) (fun i hi => by
      obtain rfl : i = 0 := by omega
      exact hs _ (by decide +kernel)) (fun i hi j hj => by
      obtain rfl : i = 0 := by omega
      have hj5 : j < 5 := hj
      rcases (show j = 0 ∨ j = 1 ∨ j = 2 ∨ j = 3 ∨ j = 4 by omega) with rfl | rfl | rfl | rfl | rfl <;> exact hs _ (by decide +kernel)) (fun i j hi hj hij => absurd (show i = j by omega) hij) hA
  refine ⟨G, fun t => if t = 0 then a0 else if t = 1 then a1 else if t = 2 then a2 else if t = 3 then a3 else if t = 4 then a4 else a5, adK 0, adV 0, ⟨hG, ?_⟩, ?_, ⟨va_AO.of o3, va_AO.of o4, va_AO.of o5⟩, ?_, ?_, ?_, hX, hbl, Nat.not_le.mpr hbl⟩
  · intro k q hq
    match k, hq with
    | 0, hq => cases hq; exact ⟨p0, r0⟩
    | 1, hq => cases hq; exact ⟨p1, r1⟩
    | 2, hq => cases hq; exact ⟨p2, r2⟩
    | 3, hq => cases hq; exact p3
    | 4, hq => cases hq; exact p4
    | 5, hq => cases hq; exact p5
    | k + 6, hq => simp [ax_tys] at hq
  · intro w hw
    have hw2 := List.mem_filter.mp hw
    have hb2 := hts w (List.mem_append_right _ hw2.1)
    have hn := hw2.2
    cases w <;> first | exact va_Nw.of rfl hb2 | (simp [ax_isN] at hn)
  · exact ⟨fun i hi => by
      obtain rfl : i = 0 := by omega
      exact hS.1 0 hi, fun i j hi hj _ => by omega⟩
  · exact vk_R.of (hts _ (List.mem_append_right _ (List.mem_of_getElem? (i := 299) (by decide +kernel)))) (hE 0 (by decide))
  · exact va_Zof (args := #[Value.ref b]) (hts _ (List.mem_append_right _ (List.mem_of_getElem? (i := 313) (by decide +kernel)))) (hts _ (List.mem_append_right _ (List.mem_of_getElem? (i := 10) (by decide +kernel)))) (va_eqt (hs _ (by decide +kernel))) hA
