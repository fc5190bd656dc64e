/-! the class as a whole: its cells by their numbers -/
abbrev eX7 (im : Int32) : ax_E := .inr (7, [.ref 1, .ref 17, .ref 115, .ref 119, .ref 135, .ref 136, .ref 137, .ref 153, .int im])
abbrev eRd (t fo aT : Int32) : ax_E := .inr (3, [.ref 120, .int t, .ref 121, .int fo, .ref 122, .int aT])
/-- the reader: t letters on the tape -/
def RD (h : ax_H) (t : Nat) (tp : Nat → Int32) : Prop := (∃ fo aT, h 119 = some (eRd (nI t) fo aT)) ∧ t ≤ 140 ∧ (∃ g, h 120 = some (ax_B 140 g) ∧ ∀ j, j < t → g j = tp j) ∧ h 121 = some (ax_R 3 12 (fun k => some (123 + k))) ∧ (∃ f, h 122 = some (ax_I 3 f)) ∧ (∀ i, i < 12 → ∃ q, h (123 + i) = some (ePc q)) ∧ ∀ j, j < t → 32 ≤ tp j ∧ tp j ≤ 126
theorem RD.fr {h h2 : ax_H} {t : Nat} {tp : Nat → Int32} (hR : RD h t tp) (he : ∀ j, 119 ≤ j → j < 135 → h2 j = h j) : RD h2 t tp := by
  obtain ⟨⟨fo, aT, h1⟩, h2', ⟨g, h3, h3'⟩, h4, ⟨f, h5⟩, h6, h7⟩ := hR
  refine ⟨⟨fo, aT, by rw [he _ (by omega) (by omega)]; exact h1⟩, h2', ⟨g, by rw [he _ (by omega) (by omega)]; exact h3, h3'⟩, by rw [he _ (by omega) (by omega)]; exact h4, ⟨f, by rw [he _ (by omega) (by omega)]; exact h5⟩, fun i hi => ?_, h7⟩
  obtain ⟨q, e⟩ := h6 i hi
  exact ⟨q, by rw [he _ (by omega) (by omega)]; exact e⟩
/-- one sheet -/
def SH1 (h : ax_H) (s : Nat) (mn la : Nat → Int32) (it : Nat → Int64) : Prop := ∃ th l z f, h (251 + 2 * s) = some (eSh (251 + 2 * s) th l z) ∧ h (251 + 2 * s + 1) = some (ax_L 24 f) ∧ ((th = 0 ∧ mn s = -1) ∨ (th = 1 ∧ ∃ k : Nat, k ≤ 24 ∧ z = nI k ∧ mn s = nI k ∧ la s = l ∧ ∀ i, i < 24 → f i = it (24 * s + i)))
def SHS (h : ax_H) (mn la : Nat → Int32) (it : Nat → Int64) : Prop := h 135 = some (ax_R 4 4 (fun k => some (251 + 2 * k))) ∧ ∀ s, s < 4 → SH1 h s mn la it
theorem SH1.fr {h h2 : ax_H} {s : Nat} {mn la : Nat → Int32} {it : Nat → Int64} (hS : SH1 h s mn la it) (he : ∀ j, 251 + 2 * s ≤ j → j < 251 + 2 * s + 2 → h2 j = h j) : SH1 h2 s mn la it := by
  obtain ⟨th, l, z, f, h1, h3, h4⟩ := hS
  exact ⟨th, l, z, f, by rw [he _ (by omega) (by omega)]; exact h1, by rw [he _ (by omega) (by omega)]; exact h3, h4⟩
theorem SHS.fr {h h2 : ax_H} {mn la : Nat → Int32} {it : Nat → Int64} (hS : SHS h mn la it) (he : ∀ j, (j = 135 ∨ (251 ≤ j ∧ j < 259)) → h2 j = h j) : SHS h2 mn la it :=
  ⟨by rw [he _ (by omega)]; exact hS.1, fun s hs => (hS.2 s hs).fr (fun j a b => he j (by omega))⟩
/-- the image: Wi 0 its state, Wi (1 + i) what it keeps -/
def IM (h : ax_H) (im iu : Int32) (Wi : Nat → Nat → Int32) : Prop := ∃ R ui, PA h 153 R ui ∧ SX h 137 ∧ ((im = 0 ∧ iu = -1) ∨ (im = 1 ∧ iu = nI ui ∧ (∃ m, SR h 137 (Wi 0) m) ∧ ∀ i, i < ui → R i = Wi (1 + i)))
theorem IM.fr {h h2 : ax_H} {im iu : Int32} {Wi : Nat → Nat → Int32} (hI : IM h im iu Wi) (he : ∀ j, 137 ≤ j → j < 251 → h2 j = h j) : IM h2 im iu Wi := by
  obtain ⟨R, ui, h1, h2', h3⟩ := hI
  refine ⟨R, ui, h1.fr (fun j a b => he j (by omega) (by omega)), h2'.fr (fun j a b => he j (by omega) (by omega)), ?_⟩
  rcases h3 with q | ⟨q1, q2, ⟨m, q3⟩, q4⟩
  · exact Or.inl q
  · exact Or.inr ⟨q1, q2, ⟨m, q3.fr (fun j a b => he j (by omega) (by omega))⟩, q4⟩
theorem IM.b {h : ax_H} {im iu : Int32} {Wi : Nat → Nat → Int32} (hI : IM h im iu Wi) : im = 0 ∨ im = 1 := by
  obtain ⟨R, ui, h1, h2', h3 | h3⟩ := hI
  · exact Or.inl h3.1
  · exact Or.inr h3.1
/-- all of it -/
def CB (h : ax_H) (r : Nat → Int32) (m : Nat) (R : Nat → Nat → Int32) (u : Nat) (im iu : Int32) (Wi : Nat → Nat → Int32) (t : Nat) (tp mn la : Nat → Int32) (it : Nat → Int64) : Prop :=
  h 0 = some (eX7 im) ∧ SR h 1 r m ∧ PA h 17 R u ∧ WX h 115 1 ∧ RD h t tp ∧ (∃ g, h 136 = some (ax_I 18 g)) ∧ IM h im iu Wi ∧ SHS h mn la it
def FM (n : Nat) (h h2 : ax_H) : Prop := ∀ j, 259 ≤ j → j < n → h2 j = h j
section CBS
variable {h h2 : ax_H} {r : Nat → Int32} {m : Nat} {R : Nat → Nat → Int32} {u : Nat} {im iu : Int32} {Wi : Nat → Nat → Int32} {t : Nat} {tp mn la : Nat → Int32} {it : Nat → Int64}
theorem CB.tr (hI : CB h r m R u im iu Wi t tp mn la it) (he : ∀ j, j < 259 → h2 j = h j) : CB h2 r m R u im iu Wi t tp mn la it := by
  obtain ⟨a1, a2, a3, a4, a5, ⟨g, a6⟩, a7, a8⟩ := hI
  exact ⟨by rw [he _ (by omega)]; exact a1, a2.fr (fun j _ b => he j (by omega)), a3.fr (fun j _ b => he j (by omega)), a4.fr (fun j _ b => he j (by omega)), a5.fr (fun j _ b => he j (by omega)), ⟨g, by rw [he _ (by omega)]; exact a6⟩, a7.fr (fun j _ b => he j (by omega)), a8.fr (fun j b => he j (by omega))⟩
theorem CB.st {r2 : Nat → Int32} {m2 : Nat} (hI : CB h r m R u im iu Wi t tp mn la it) (hS : SR h2 1 r2 m2) (he : fr 1 16 h h2) : CB h2 r2 m2 R u im iu Wi t tp mn la it := by
  obtain ⟨a1, a2, a3, a4, a5, ⟨g, a6⟩, a7, a8⟩ := hI
  exact ⟨by rw [he _ (by omega)]; exact a1, hS, a3.fr (fun j _ b => he j (by omega)), a4.fr (fun j _ b => he j (by omega)), a5.fr (fun j _ b => he j (by omega)), ⟨g, by rw [he _ (by omega)]; exact a6⟩, a7.fr (fun j _ b => he j (by omega)), a8.fr (fun j b => he j (by omega))⟩
theorem CB.pa {R2 : Nat → Nat → Int32} {u2 : Nat} (hI : CB h r m R u im iu Wi t tp mn la it) (hA : PA h2 17 R2 u2) (he : fr 17 98 h h2) : CB h2 r m R2 u2 im iu Wi t tp mn la it := by
  obtain ⟨a1, a2, a3, a4, a5, ⟨g, a6⟩, a7, a8⟩ := hI
  exact ⟨by rw [he _ (by omega)]; exact a1, a2.fr (fun j _ b => he j (by omega)), hA, a4.fr (fun j _ b => he j (by omega)), a5.fr (fun j _ b => he j (by omega)), ⟨g, by rw [he _ (by omega)]; exact a6⟩, a7.fr (fun j _ b => he j (by omega)), a8.fr (fun j b => he j (by omega))⟩
theorem CB.wk (hI : CB h r m R u im iu Wi t tp mn la it) (hW : WX h2 115 1) (he : fr 115 4 h h2) : CB h2 r m R u im iu Wi t tp mn la it := by
  obtain ⟨a1, a2, a3, a4, a5, ⟨g, a6⟩, a7, a8⟩ := hI
  exact ⟨by rw [he _ (by omega)]; exact a1, a2.fr (fun j _ b => he j (by omega)), a3.fr (fun j _ b => he j (by omega)), hW, a5.fr (fun j _ b => he j (by omega)), ⟨g, by rw [he _ (by omega)]; exact a6⟩, a7.fr (fun j _ b => he j (by omega)), a8.fr (fun j b => he j (by omega))⟩
theorem CB.rd {t2 : Nat} {tp2 : Nat → Int32} (hI : CB h r m R u im iu Wi t tp mn la it) (hR : RD h2 t2 tp2) (he : fr 119 16 h h2) : CB h2 r m R u im iu Wi t2 tp2 mn la it := by
  obtain ⟨a1, a2, a3, a4, a5, ⟨g, a6⟩, a7, a8⟩ := hI
  exact ⟨by rw [he _ (by omega)]; exact a1, a2.fr (fun j _ b => he j (by omega)), a3.fr (fun j _ b => he j (by omega)), a4.fr (fun j _ b => he j (by omega)), hR, ⟨g, by rw [he _ (by omega)]; exact a6⟩, a7.fr (fun j _ b => he j (by omega)), a8.fr (fun j b => he j (by omega))⟩
theorem CB.mv (hI : CB h r m R u im iu Wi t tp mn la it) (hg : ∃ g, h2 136 = some (ax_I 18 g)) (he : fr 136 1 h h2) : CB h2 r m R u im iu Wi t tp mn la it := by
  obtain ⟨a1, a2, a3, a4, a5, -, a7, a8⟩ := hI
  exact ⟨by rw [he _ (by omega)]; exact a1, a2.fr (fun j _ b => he j (by omega)), a3.fr (fun j _ b => he j (by omega)), a4.fr (fun j _ b => he j (by omega)), a5.fr (fun j _ b => he j (by omega)), hg, a7.fr (fun j _ b => he j (by omega)), a8.fr (fun j b => he j (by omega))⟩
theorem CB.ig {iu2 : Int32} {Wi2 : Nat → Nat → Int32} (hI : CB h r m R u im iu Wi t tp mn la it) (hM : IM h2 im iu2 Wi2) (he : fr 137 114 h h2) : CB h2 r m R u im iu2 Wi2 t tp mn la it := by
  obtain ⟨a1, a2, a3, a4, a5, ⟨g, a6⟩, a7, a8⟩ := hI
  exact ⟨by rw [he _ (by omega)]; exact a1, a2.fr (fun j _ b => he j (by omega)), a3.fr (fun j _ b => he j (by omega)), a4.fr (fun j _ b => he j (by omega)), a5.fr (fun j _ b => he j (by omega)), ⟨g, by rw [he _ (by omega)]; exact a6⟩, hM, a8.fr (fun j b => he j (by omega))⟩
theorem CB.sh {mn2 la2 : Nat → Int32} {it2 : Nat → Int64} (hI : CB h r m R u im iu Wi t tp mn la it) (hM : SHS h2 mn2 la2 it2) (he : fr 251 8 h h2) : CB h2 r m R u im iu Wi t tp mn2 la2 it2 := by
  obtain ⟨a1, a2, a3, a4, a5, ⟨g, a6⟩, a7, a8⟩ := hI
  exact ⟨by rw [he _ (by omega)]; exact a1, a2.fr (fun j _ b => he j (by omega)), a3.fr (fun j _ b => he j (by omega)), a4.fr (fun j _ b => he j (by omega)), a5.fr (fun j _ b => he j (by omega)), ⟨g, by rw [he _ (by omega)]; exact a6⟩, a7.fr (fun j _ b => he j (by omega)), hM⟩
theorem CB.o (hI : CB h r m R u im iu Wi t tp mn la it) : (∃ fs, h 1 = some (.inr (5, fs))) ∧ h 17 = some (ePa 17 (nI u)) ∧ (∃ fs, h 115 = some (.inr (6, fs))) ∧ u ≤ 6 ∧ m ≤ 12 := by
  obtain ⟨a1, a2, a3, a4, a5, -, a7, a8⟩ := hI
  refine ⟨a2.sx.o, ?_, ?_, ?_, a2.ri.1.2.1⟩
  · obtain ⟨_, q, -⟩ := a3; exact q
  · obtain ⟨_, _, _, _, _, q, -⟩ := a4; exact ⟨_, q.1⟩
  · obtain ⟨_, _, _, q, -⟩ := a3; exact q
end CBS
theorem FM_fr {n b N : Nat} {h h2 : ax_H} (hb : b + N ≤ 259) (he : fr b N h h2) : FM n h h2 := fun j a _ => he j (by omega)
theorem FM_rf {n : Nat} {h : ax_H} : FM n h h := fun _ _ _ => rfl
theorem FM_tr {n : Nat} {h h2 h3 : ax_H} (a : FM n h h2) (b : FM n h2 h3) : FM n h h3 := fun j x y => (b j x y).trans (a j x y)
