/-! START: what the premises give: the row of verbs, the classes -/
def nmE : List String := ["RENT", "BACK", "FULL", "FAULT", "TAKE", "PUT", "GO", "MEND", "PASS", "WAIT"]
def tmE (i : Nat) : Term := .static "DockedBikes$Verb" (nmE.getD i "") "LDockedBikes$Verb;"
def tmV : Term := .static "DockedBikes$Verb" "$VALUES" "[LDockedBikes$Verb;"
theorem mE1 : ∀ i, i < 10 → Cond.exactly (tmE i) "DockedBikes$Verb" ∈ flatC (Jvm.Cond.and given_1 narrow_1) := by decide +kernel
theorem mV1 : Cond.arrayOf tmV (.object "DockedBikes$Verb") ∈ flatC (Jvm.Cond.and given_1 narrow_1) := by decide +kernel
theorem mV2 : Cond.eq (.length tmV) (.int 10) ∈ flatC (Jvm.Cond.and given_1 narrow_1) := by decide +kernel
theorem mV3 : ∀ j, j < 10 → Cond.eq (.elem tmV (.int (Int32.ofNat j))) (tmE j) ∈ flatC (Jvm.Cond.and given_1 narrow_1) := by decide +kernel
theorem mV4 : Cond.exactly tmV "[LDockedBikes$Verb;" ∈ flatC (Jvm.Cond.and given_1 narrow_1) := by decide +kernel
theorem mV5 : Cond.all tmV (.le (.index 0) (.int 9)) ∈ flatC (Jvm.Cond.and given_1 narrow_1) := by decide +kernel
theorem start_VX {s : State} {b : Nat} (hts0 : ∀ w ∈ lw_tbl, w.before #[Value.ref b] s = true) (hgv : (Jvm.Cond.and given_1 narrow_1).before #[Value.ref b] s = true) : ∃ (en : Nat → Nat), VX en (fun q : Nat => s.heap.size ≤ q) s s.heap := by
  have hs := flat_of_before _ hgv
  have hA : ∀ a : Nat, a < s.heap.size → ¬ (fun q : Nat => s.heap.size ≤ q) a := fun a h => Nat.not_le.mpr h
  have h0 : ∀ i : Nat, ∃ q : Nat, i < 10 → (tmE i).eval #[Value.ref b] s none [] s = some (.ref q) := by
    intro i
    by_cases hi : i < 10
    · obtain ⟨a, c, cA, kA, q1, -⟩ := Cond.exactly_spec (args := #[Value.ref b]) (first := s) (o := none) (s := s) (idx := []) (t := tmE i) (cls := "DockedBikes$Verb") (hs _ (mE1 i hi))
      exact ⟨a, fun _ => q1⟩
    · exact ⟨0, fun h => absurd h hi⟩
  obtain ⟨en, hen⟩ := Classical.axiomOfChoice h0
  refine ⟨en, ?_⟩
  obtain ⟨tV, hV1, cell, v1, v2, v3, v4, v5, v6, v7⟩ := va_Tof (tm := tmV) (ty := .object "DockedBikes$Verb") (N := 10) (f := fun i => .ref (en i)) (A := (fun q : Nat => s.heap.size ≤ q)) (by decide) (hs _ mV1) (va_eqt (hs _ mV2)) (fun j hj => va_eqv (hs _ (mV3 j hj)) (hen j hj)) hA
  obtain ⟨a, c, cell2, kA, q1, q2, q3, q4, q5, q6, -⟩ := Cond.exactly_spec (args := #[Value.ref b]) (first := s) (o := none) (s := s) (idx := []) (t := tmV) (cls := "[LDockedBikes$Verb;") (hs _ mV4)
  cases hV1.symm.trans q1
  cases v1.symm.trans q3
  obtain ⟨a3, cell3, r1, r2, -⟩ := Term.length_spec (va_eqt (hs _ mV2))
  cases hV1.symm.trans r1
  cases v1.symm.trans (State.arrayAt?_spec r2).1
  have hsz : cell.slots.size ≤ 10 := by
    refine Nat.not_lt.mp (fun h => ?_)
    have hall := Cond.all_elim hV1 r2 (show (Cond.all tmV (.le (.index 0) (.int 9))).value #[Value.ref b] s none s [] = some true by simpa [Cond.before, Cond.holds] using hs _ mV5) 10 h
    first | exact absurd hall (by decide) | (simp [Cond.value, Term.eval] at hall; done) | (simp [Cond.value, Term.eval] at hall; exact absurd hall (by decide))
  have hZ5 : va_Z "DockedBikes$Verb" "$VALUES" "[LDockedBikes$Verb;" (.ref tV) (fun q : Nat => s.heap.size ≤ q) s s.heap := va_Zof (hts0 (.laysStatic "DockedBikes$Verb" "$VALUES" "[LDockedBikes$Verb;") (by decide +kernel)) (hts0 (.initialized "DockedBikes$Verb") (by decide +kernel)) hV1 hA
  exact ⟨tV, cell, hZ5, v1, v2.1, v3, by omega, v6, by rw [q6]; exact q2, v7⟩
theorem start_NW {s : State} {b : Nat} (hts0 : ∀ w ∈ lw_tbl, w.before #[Value.ref b] s = true) : NW s :=
  ⟨⟨va_Nw.of rfl (hts0 _ (by decide +kernel)), va_Nw.of rfl (hts0 _ (by decide +kernel)), va_Nw.of rfl (hts0 _ (by decide +kernel)), va_Nw.of rfl (hts0 _ (by decide +kernel))⟩, ⟨va_Nw.of rfl (hts0 _ (by decide +kernel)), va_Nw.of rfl (hts0 _ (by decide +kernel)), va_Nw.of rfl (hts0 _ (by decide +kernel)), va_Nw.of rfl (hts0 _ (by decide +kernel))⟩, va_Nw.of rfl (hts0 _ (by decide +kernel)), va_AO.of (A := #[Value.ref b]) (hts0 (.arrayOver (.object "DockedBikes$Road")) (by decide +kernel)), va_Nw.of rfl (hts0 (.castable "[LDockedBikes$Verb;" "java/lang/Cloneable") (by decide +kernel))⟩
theorem start_arr {s : State} {C : String} (h : va_AO C s) : ∃ cA : ClassId, ArrOfT s cA (.object C) ∧ va_RA s cA (.object C) := by
  obtain ⟨comp, c, k, h1, -, h3, h4, h5⟩ := Cond.arrayOver_spec (args := #[]) (first := s) (o := none) (s := s) (idx := []) (n := C) h
  exact ⟨c, fun n z => ⟨(fun k h => by cases h), k, h3, comp, h4⟩, k, comp, h3, h4, h1, h5⟩
theorem start_K {s : State} {b : Nat} (hts0 : ∀ w ∈ lw_tbl, w.before #[Value.ref b] s = true) : ∃ (dC : Nat → ClassId) (dI : Nat → Nat → Nat) (cs : Nat → ClassId), va_K (dC, dI) vwCl (tyL cs) s := by
  have hts : ∀ w ∈ wsL_law, w.before #[Value.ref b] s = true := fun w hw => hts0 w (wsL_law_in w hw)
  obtain ⟨c0, i0, g0⟩ := u_known (C := RX1) (T := TX1) (N := 7) (n := 7) hts0 inX1 (hts (.instantiable RX1 7) (List.mem_of_getElem? (i := 37) rfl))
  obtain ⟨c1, i1, g1⟩ := u_known (C := RX2) (T := TX2) (N := 6) (n := 6) hts0 inX2 (hts (.instantiable RX2 6) (List.mem_of_getElem? (i := 22) rfl))
  obtain ⟨c2, i2, g2⟩ := u_known (C := RX3) (T := TX3) (N := 3) (n := 3) hts0 inX3 (hts (.instantiable RX3 3) (List.mem_of_getElem? (i := 18) rfl))
  obtain ⟨c3, i3, g3⟩ := u_known (C := RX4) (T := TX4) (N := 10) (n := 10) hts0 inX4 (hts (.instantiable RX4 10) (List.mem_of_getElem? (i := 41) rfl))
  obtain ⟨c4, i4, g4⟩ := u_known (C := RX5) (T := TX5) (N := 6) (n := 6) hts0 inX5 (hts (.instantiable RX5 6) (List.mem_of_getElem? (i := 12) rfl))
  obtain ⟨c5, i5, g5⟩ := u_known (C := RX6) (T := TX6) (N := 5) (n := 5) hts0 inX6 (hts (.instantiable RX6 5) (List.mem_of_getElem? (i := 33) rfl))
  obtain ⟨c6, i6, g6⟩ := u_known (C := RX7) (T := TX7) (N := 9) (n := 9) hts0 inX7 (hts (.instantiable RX7 9) (List.mem_of_getElem? (i := 26) rfl))
  obtain ⟨c7, i7, g7⟩ := u_known (C := RX8) (T := TX8) (N := 4) (n := 4) hts0 inX8 (hts (.instantiable RX8 4) (List.mem_of_getElem? (i := 45) rfl))
  obtain ⟨c8, i8, g8⟩ := u_known (C := RX10) (T := TX10) (N := 7) (n := 7) hts0 inX10 (hts (.instantiable RX10 7) (List.mem_of_getElem? (i := 1) rfl))
  obtain ⟨a0, k0, p0, x1, x2, x3⟩ := Cond.arrayClass_spec (hts (.arrayClass .int) (List.mem_of_getElem? (i := 3) rfl))
  obtain ⟨a1, k1, p1, y1, y2, y3⟩ := Cond.arrayClass_spec (hts (.arrayClass .char) (List.mem_of_getElem? (i := 97) rfl))
  obtain ⟨a2, z1, z2⟩ := start_arr (va_AO.of (A := #[Value.ref b]) (hts0 (.arrayOver (.object "DockedBikes$Road")) (by decide +kernel)))
  obtain ⟨a3, w1, w2⟩ := start_arr (va_AO.of (A := #[Value.ref b]) (hts0 (.arrayOver (.object "DockedBikes$Verb")) (by decide +kernel)))
  refine ⟨fun k => if k = 0 then c0 else if k = 1 then c1 else if k = 2 then c2 else if k = 3 then c3 else if k = 4 then c4 else if k = 5 then c5 else if k = 6 then c6 else if k = 7 then c7 else c8, fun k => if k = 0 then i0 else if k = 1 then i1 else if k = 2 then i2 else if k = 3 then i3 else if k = 4 then i4 else if k = 5 then i5 else if k = 6 then i6 else if k = 7 then i7 else i8, fun k => if k = 0 then a0 else if k = 1 then a1 else if k = 2 then a2 else a3, ⟨fun k q hq => ?_, fun k q hq => ?_⟩⟩
  · have hk : k < 9 := (List.getElem?_eq_some_iff.mp hq).1
    rcases (show k = 0 ∨ k = 1 ∨ k = 2 ∨ k = 3 ∨ k = 4 ∨ k = 5 ∨ k = 6 ∨ k = 7 ∨ k = 8 by omega) with rfl | rfl | rfl | rfl | rfl | rfl | rfl | rfl | rfl
    · cases hq; exact g0
    · cases hq; exact g1
    · cases hq; exact g2
    · cases hq; exact g3
    · cases hq; exact g4
    · cases hq; exact g5
    · cases hq; exact g6
    · cases hq; exact g7
    · cases hq; exact g8
  · have hk : k < 4 := (List.getElem?_eq_some_iff.mp hq).1
    rcases (show k = 0 ∨ k = 1 ∨ k = 2 ∨ k = 3 by omega) with rfl | rfl | rfl | rfl
    · cases hq; exact ⟨fun n z => ⟨(fun k h => by cases h), k0, x2, p0, x3⟩, x1⟩
    · cases hq; exact ⟨fun n z => ⟨(fun k h => by cases h), k1, y2, p1, y3⟩, y1⟩
    · cases hq; exact ⟨z1, z2⟩
    · cases hq; exact ⟨w1, w2⟩
