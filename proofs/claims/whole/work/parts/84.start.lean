/-! START: what the premises give: the words, the verbs, the switch's map, the row of verbs -/
def tmS (i : Nat) : Term := .string "DockedBikes$Verb" (([106, 112, 115, 118, 121, 124, 127, 130, 133, 136] : List Nat).getD i 0)
def nmE : List String := ["RENT", "BACK", "FULL", "FAULT", "TAKE", "PUT", "GO", "MEND", "PASS", "WAIT"]
def tmE (i : Nat) : Term := .static "DockedBikes$Verb" (nmE.getD i "") "LDockedBikes$Verb;"
def tmW : Term := .static "DockedBikes$1" "$SwitchMap$DockedBikes$Verb" "[I"
def tmV : Term := .static "DockedBikes$Verb" "$VALUES" "[LDockedBikes$Verb;"
theorem mS1 : ∀ i, i < 10 → Cond.exactly (tmS i) "java/lang/String" ∈ flatC (Jvm.Cond.and given_1 narrow_1) := by decide +kernel
theorem mS2 : ∀ i, i < 10 → Cond.eq (.field (tmS i) "java/lang/String" "coder" "B") (.int 0) ∈ flatC (Jvm.Cond.and given_1 narrow_1) := by decide +kernel
theorem mS3 : ∀ i, i < 10 → Cond.arrayOf (.field (tmS i) "java/lang/String" "value" "[B") .byte ∈ flatC (Jvm.Cond.and given_1 narrow_1) := by decide +kernel
theorem mS4 : ∀ i, i < 10 → Cond.eq (.length (.field (tmS i) "java/lang/String" "value" "[B")) (.int (Int32.ofNat (xlen.getD i 0))) ∈ flatC (Jvm.Cond.and given_1 narrow_1) := by decide +kernel
theorem mS5 : ∀ i, i < 10 → ∀ j, j < xlen.getD i 0 → Cond.eq (.elem (.field (tmS i) "java/lang/String" "value" "[B") (.int (Int32.ofNat j))) (.int ((xbyt.getD i []).getD j 0)) ∈ flatC (Jvm.Cond.and given_1 narrow_1) := by decide +kernel
theorem mS6 : ∀ i, i < 10 → ∀ j, j < 10 → i ≠ j → (Cond.not (Cond.eq (tmS i) (tmS j)) ∈ flatC (Jvm.Cond.and given_1 narrow_1) ∨ Cond.not (Cond.eq (tmS j) (tmS i)) ∈ flatC (Jvm.Cond.and given_1 narrow_1)) := by decide +kernel
theorem mE1 : ∀ i, i < 10 → Cond.exactly (tmE i) "DockedBikes$Verb" ∈ flatC (Jvm.Cond.and given_1 narrow_1) := by decide +kernel
theorem mE2 : ∀ i, i < 10 → Cond.eq (.field (tmE i) "DockedBikes$Verb" "word" "Ljava/lang/String;") (tmS i) ∈ flatC (Jvm.Cond.and given_1 narrow_1) := by decide +kernel
theorem mE3 : ∀ i, i < 10 → Cond.eq (.field (tmE i) "DockedBikes$Verb" "numbers" "I") (.int (nI (nn i))) ∈ flatC (Jvm.Cond.and given_1 narrow_1) := by decide +kernel
theorem mE4 : ∀ i, i < 10 → Cond.eq (.field (tmE i) "java/lang/Enum" "ordinal" "I") (.int (nI i)) ∈ flatC (Jvm.Cond.and given_1 narrow_1) := by decide +kernel
theorem mW1 : Cond.arrayOf tmW .int ∈ flatC (Jvm.Cond.and given_1 narrow_1) := by decide +kernel
theorem mW2 : Cond.eq (.length tmW) (.int 10) ∈ flatC (Jvm.Cond.and given_1 narrow_1) := by decide +kernel
theorem mW3 : ∀ j, j < 10 → Cond.eq (.elem tmW (.int (Int32.ofNat j))) (.int (xsw j)) ∈ flatC (Jvm.Cond.and given_1 narrow_1) := by decide +kernel
theorem mV1 : Cond.arrayOf tmV (.object "DockedBikes$Verb") ∈ flatC (Jvm.Cond.and given_1 narrow_1) := by decide +kernel
theorem mV2 : Cond.eq (.length tmV) (.int 10) ∈ flatC (Jvm.Cond.and given_1 narrow_1) := by decide +kernel
theorem mV3 : ∀ j, j < 10 → Cond.eq (.elem tmV (.int (Int32.ofNat j))) (tmE j) ∈ flatC (Jvm.Cond.and given_1 narrow_1) := by decide +kernel
theorem mV4 : Cond.exactly tmV "[LDockedBikes$Verb;" ∈ flatC (Jvm.Cond.and given_1 narrow_1) := by decide +kernel
theorem mV5 : Cond.all tmV (.le (.index 0) (.int 9)) ∈ flatC (Jvm.Cond.and given_1 narrow_1) := by decide +kernel
theorem mC1 : Cond.eq (.static "java/lang/String" "COMPACT_STRINGS" "Z") (.int 1) ∈ flatC (Jvm.Cond.and given_1 narrow_1) := by decide +kernel
theorem mC2 : Cond.isRef (.static "jdk/internal/util/Preconditions" "SIOOBE_FORMATTER" "Ljava/util/function/BiFunction;") ∈ flatC (Jvm.Cond.and given_1 narrow_1) := by decide +kernel
theorem start_EX {s : State} {b : Nat} (hts0 : ∀ w ∈ lw_tbl, w.before #[Value.ref b] s = true) (hgv : (Jvm.Cond.and given_1 narrow_1).before #[Value.ref b] s = true) : ∃ (aK aV en : Nat → Nat) (tF tS : Nat), EX aK aV en tF tS (fun q : Nat => s.heap.size ≤ q) s s.heap ∧ VX en (fun q : Nat => s.heap.size ≤ q) s s.heap := by
  have hs := flat_of_before _ hgv
  have hA : ∀ a : Nat, a < s.heap.size → ¬ (fun q : Nat => s.heap.size ≤ q) a := fun a h => Nat.not_le.mpr h
  obtain ⟨aK, aV, hSt, hKe⟩ := vk_Sof (N := 10) (tm := tmS) (len := xlen) (byt := xbyt) (A := (fun q : Nat => s.heap.size ≤ q)) (by decide) (fun i hi => hs _ (mS1 i hi)) (fun i hi => hs _ (mS2 i hi)) (fun i hi => hs _ (mS3 i hi)) (fun i hi => hs _ (mS4 i hi)) (fun i hi j hj => hs _ (mS5 i hi j hj)) (fun i j hi hj hij => (mS6 i hi j hj hij).imp (fun h => hs _ h) (fun h => hs _ h)) hA
  have h0 : ∀ i : Nat, ∃ q : Nat, i < 10 → (tmE i).eval #[Value.ref b] s none [] s = some (.ref q) := by
    intro i
    by_cases hi : i < 10
    · obtain ⟨a, c, cA, kA, q1, -⟩ := Cond.exactly_spec (args := #[Value.ref b]) (first := s) (o := none) (s := s) (idx := []) (t := tmE i) (cls := "DockedBikes$Verb") (hs _ (mE1 i hi))
      exact ⟨a, fun _ => q1⟩
    · exact ⟨0, fun h => absurd h hi⟩
  obtain ⟨en, hen⟩ := Classical.axiomOfChoice h0
  have hO : ∀ i, i < 10 → va_O "DockedBikes$Verb" (en i) (fun q : Nat => s.heap.size ≤ q) s s.heap := fun i hi => va_Oof (hs _ (mE1 i hi)) (hen i hi) hA
  have hw := va_Efof (N := 10) (E := "DockedBikes$Verb") (d0 := "LDockedBikes$Verb;") (o := "DockedBikes$Verb") (n := "word") (d := "Ljava/lang/String;") (nm := nmE) (v := fun i => .ref (aK i)) (tm := tmS) (ad := en) (A := (fun q : Nat => s.heap.size ≤ q)) (fun i hi => hen i hi) (fun i hi => hs _ (mE2 i hi)) (fun i hi => hKe i hi) hA
  have hn := va_Efof (N := 10) (E := "DockedBikes$Verb") (d0 := "LDockedBikes$Verb;") (o := "DockedBikes$Verb") (n := "numbers") (d := "I") (nm := nmE) (v := fun i => .int (nI (nn i))) (tm := fun i => .int (nI (nn i))) (ad := en) (A := (fun q : Nat => s.heap.size ≤ q)) (fun i hi => hen i hi) (fun i hi => hs _ (mE3 i hi)) (fun i hi => rfl) hA
  have ho := va_Efof (N := 10) (E := "DockedBikes$Verb") (d0 := "LDockedBikes$Verb;") (o := "java/lang/Enum") (n := "ordinal") (d := "I") (nm := nmE) (v := fun i => .int (nI i)) (tm := fun i => .int (nI i)) (ad := en) (A := (fun q : Nat => s.heap.size ≤ q)) (fun i hi => hen i hi) (fun i hi => hs _ (mE4 i hi)) (fun i hi => rfl) hA
  have hZ1 : va_Z "java/lang/String" "COMPACT_STRINGS" "Z" (.int 1) (fun q : Nat => s.heap.size ≤ q) s s.heap := va_Zof (hts0 (.laysStatic "java/lang/String" "COMPACT_STRINGS" "Z") (by decide +kernel)) (hts0 (.initialized "java/lang/String") (by decide +kernel)) (va_eqi (hs _ mC1)) hA
  have hZ2 : ∃ tF : Nat, va_Z "jdk/internal/util/Preconditions" "SIOOBE_FORMATTER" "Ljava/util/function/BiFunction;" (vF tF) (fun q : Nat => s.heap.size ≤ q) s s.heap := by
    rcases va_Zqof (hts0 (.laysStatic "jdk/internal/util/Preconditions" "SIOOBE_FORMATTER" "Ljava/util/function/BiFunction;") (by decide +kernel)) (hts0 (.initialized "jdk/internal/util/Preconditions") (by decide +kernel)) (hs _ mC2) hA with h | ⟨t, h⟩
    · exact ⟨0, h⟩
    · exact ⟨t + 1, h⟩
  obtain ⟨tF, hZ2⟩ := hZ2
  obtain ⟨tS, hZ3, hT⟩ := va_Tof (tm := tmW) (ty := .int) (N := 10) (f := fun i => .int (xsw i)) (A := (fun q : Nat => s.heap.size ≤ q)) (by decide) (hs _ mW1) (va_eqt (hs _ mW2)) (fun j hj => va_eqt (hs _ (mW3 j hj))) hA
  have hZ4 : va_Z "DockedBikes$1" "$SwitchMap$DockedBikes$Verb" "[I" (.ref tS) (fun q : Nat => s.heap.size ≤ q) s s.heap := va_Zof (hts0 (.laysStatic "DockedBikes$1" "$SwitchMap$DockedBikes$Verb" "[I") (by decide +kernel)) (hts0 (.initialized "DockedBikes$1") (by decide +kernel)) hZ3 hA
  refine ⟨aK, aV, en, tF, tS, ⟨hSt, hZ1, hZ2, hO, hw, hn, ho, hZ4, hT⟩, ?_⟩
  obtain ⟨tV, hV1, cell, v1, v2, v3, v4, v5, v6, v7⟩ := va_Tof (tm := tmV) (ty := .object "DockedBikes$Verb") (N := 10) (f := fun i => .ref (en i)) (A := (fun q : Nat => s.heap.size ≤ q)) (by decide) (hs _ mV1) (va_eqt (hs _ mV2)) (fun j hj => va_eqv (hs _ (mV3 j hj)) (hen j hj)) hA
  obtain ⟨a, c, cell2, kA, q1, q2, q3, q4, q5, q6, -⟩ := Cond.exactly_spec (args := #[Value.ref b]) (first := s) (o := none) (s := s) (idx := []) (t := tmV) (cls := "[LDockedBikes$Verb;") (hs _ mV4)
  cases hV1.symm.trans q1
  cases v1.symm.trans q3
  obtain ⟨a3, cell3, r1, r2, -⟩ := Term.length_spec (va_eqt (hs _ mV2))
  cases hV1.symm.trans r1
  cases v1.symm.trans (State.arrayAt?_spec r2).1
  have hsz : cell.slots.size ≤ 10 := by
    refine Nat.not_lt.mp (fun h => ?_)
    have hall := Cond.all_elim hV1 r2 (show (Cond.all tmV (.le (.index 0) (.int 9))).value #[Value.ref b] s none s [] = some true by simpa [Cond.before, Cond.holds] using hs _ mV5) 10 h
    first | exact absurd hall (by decide) | (simp [Cond.value, Term.eval] at hall; done) | (simp [Cond.value, Term.eval] at hall; exact absurd hall (by decide))
  have hZ5 : va_Z "DockedBikes$Verb" "$VALUES" "[LDockedBikes$Verb;" (.ref tV) (fun q : Nat => s.heap.size ≤ q) s s.heap := va_Zof (hts0 (.laysStatic "DockedBikes$Verb" "$VALUES" "[LDockedBikes$Verb;") (by decide +kernel)) (hts0 (.initialized "DockedBikes$Verb") (by decide +kernel)) hV1 hA
  exact ⟨tV, cell, hZ5, v1, v2.1, v3, by omega, v6, by rw [q6]; exact q2, v7⟩
theorem start_NW {s : State} {b : Nat} (hts0 : ∀ w ∈ lw_tbl, w.before #[Value.ref b] s = true) : NW s :=
  ⟨⟨va_Nw.of rfl (hts0 _ (by decide +kernel)), va_Nw.of rfl (hts0 _ (by decide +kernel)), va_Nw.of rfl (hts0 _ (by decide +kernel)), va_Nw.of rfl (hts0 _ (by decide +kernel))⟩, ⟨va_Nw.of rfl (hts0 _ (by decide +kernel)), va_Nw.of rfl (hts0 _ (by decide +kernel)), va_Nw.of rfl (hts0 _ (by decide +kernel)), va_Nw.of rfl (hts0 _ (by decide +kernel))⟩, va_Nw.of rfl (hts0 _ (by decide +kernel)), va_AO.of (A := #[Value.ref b]) (hts0 (.arrayOver (.object "DockedBikes$Road")) (by decide +kernel)), va_Nw.of rfl (hts0 (.castable "[LDockedBikes$Verb;" "java/lang/Cloneable") (by decide +kernel))⟩
theorem start_arr {s : State} {C : String} (h : va_AO C s) : ∃ cA : ClassId, ArrOfT s cA (.object C) ∧ va_RA s cA (.object C) := by
  obtain ⟨comp, c, k, h1, -, h3, h4, h5⟩ := Cond.arrayOver_spec (args := #[]) (first := s) (o := none) (s := s) (idx := []) (n := C) h
  exact ⟨c, fun n z => ⟨(fun k h => by cases h), k, h3, comp, h4⟩, k, comp, h3, h4, h1, h5⟩
theorem start_K {s : State} {b : Nat} (hts0 : ∀ w ∈ lw_tbl, w.before #[Value.ref b] s = true) : ∃ (dC : Nat → ClassId) (dI : Nat → Nat → Nat) (cs : Nat → ClassId), va_K (dC, dI) vwCl (tyL cs) s := by
  have hts : ∀ w ∈ wsL_law, w.before #[Value.ref b] s = true := fun w hw => hts0 w (wsL_law_in w hw)
  obtain ⟨c0, i0, g0⟩ := u_known (C := RX1) (T := TX1) (N := 7) (n := 7) hts0 inX1 (hts (.instantiable RX1 7) (List.mem_of_getElem? (i := 38) rfl))
  obtain ⟨c1, i1, g1⟩ := u_known (C := RX2) (T := TX2) (N := 6) (n := 6) hts0 inX2 (hts (.instantiable RX2 6) (List.mem_of_getElem? (i := 23) rfl))
  obtain ⟨c2, i2, g2⟩ := u_known (C := RX3) (T := TX3) (N := 3) (n := 3) hts0 inX3 (hts (.instantiable RX3 3) (List.mem_of_getElem? (i := 19) rfl))
  obtain ⟨c3, i3, g3⟩ := u_known (C := RX4) (T := TX4) (N := 10) (n := 10) hts0 inX4 (hts (.instantiable RX4 10) (List.mem_of_getElem? (i := 42) rfl))
  obtain ⟨c4, i4, g4⟩ := u_known (C := RX5) (T := TX5) (N := 6) (n := 6) hts0 inX5 (hts (.instantiable RX5 6) (List.mem_of_getElem? (i := 13) rfl))
  obtain ⟨c5, i5, g5⟩ := u_known (C := RX6) (T := TX6) (N := 5) (n := 5) hts0 inX6 (hts (.instantiable RX6 5) (List.mem_of_getElem? (i := 34) rfl))
  obtain ⟨c6, i6, g6⟩ := u_known (C := RX7) (T := TX7) (N := 9) (n := 9) hts0 inX7 (hts (.instantiable RX7 9) (List.mem_of_getElem? (i := 27) rfl))
  obtain ⟨c7, i7, g7⟩ := u_known (C := RX8) (T := TX8) (N := 4) (n := 4) hts0 inX8 (hts (.instantiable RX8 4) (List.mem_of_getElem? (i := 46) rfl))
  obtain ⟨c8, i8, g8⟩ := u_known (C := RX10) (T := TX10) (N := 7) (n := 7) hts0 inX10 (hts (.instantiable RX10 7) (List.mem_of_getElem? (i := 1) rfl))
  obtain ⟨c9, i9, g9⟩ := u_known (C := RX11) (T := TX11) (N := 14) (n := 14) hts0 inX11 (hts (.instantiable RX11 14) (List.mem_of_getElem? (i := 4) rfl))
  obtain ⟨a0, k0, p0, x1, x2, x3⟩ := Cond.arrayClass_spec (hts (.arrayClass .int) (List.mem_of_getElem? (i := 49) rfl))
  obtain ⟨a1, k1, p1, y1, y2, y3⟩ := Cond.arrayClass_spec (hts (.arrayClass .char) (List.mem_of_getElem? (i := 99) rfl))
  obtain ⟨a2, z1, z2⟩ := start_arr (va_AO.of (A := #[Value.ref b]) (hts0 (.arrayOver (.object "DockedBikes$Road")) (by decide +kernel)))
  obtain ⟨a3, w1, w2⟩ := start_arr (va_AO.of (A := #[Value.ref b]) (hts0 (.arrayOver (.object "DockedBikes$Verb")) (by decide +kernel)))
  refine ⟨fun k => if k = 0 then c0 else if k = 1 then c1 else if k = 2 then c2 else if k = 3 then c3 else if k = 4 then c4 else if k = 5 then c5 else if k = 6 then c6 else if k = 7 then c7 else if k = 8 then c8 else c9, fun k => if k = 0 then i0 else if k = 1 then i1 else if k = 2 then i2 else if k = 3 then i3 else if k = 4 then i4 else if k = 5 then i5 else if k = 6 then i6 else if k = 7 then i7 else if k = 8 then i8 else i9, fun k => if k = 0 then a0 else if k = 1 then a1 else if k = 2 then a2 else a3, ⟨fun k q hq => ?_, fun k q hq => ?_⟩⟩
  · have hk : k < 10 := (List.getElem?_eq_some_iff.mp hq).1
    rcases (show k = 0 ∨ k = 1 ∨ k = 2 ∨ k = 3 ∨ k = 4 ∨ k = 5 ∨ k = 6 ∨ k = 7 ∨ k = 8 ∨ k = 9 by omega) with rfl | rfl | rfl | rfl | rfl | rfl | rfl | rfl | rfl | rfl
    · cases hq; exact g0
    · cases hq; exact g1
    · cases hq; exact g2
    · cases hq; exact g3
    · cases hq; exact g4
    · cases hq; exact g5
    · cases hq; exact g6
    · cases hq; exact g7
    · cases hq; exact g8
    · cases hq; exact g9
  · have hk : k < 4 := (List.getElem?_eq_some_iff.mp hq).1
    rcases (show k = 0 ∨ k = 1 ∨ k = 2 ∨ k = 3 by omega) with rfl | rfl | rfl | rfl
    · cases hq; exact ⟨fun n z => ⟨(fun k h => by cases h), k0, x2, p0, x3⟩, x1⟩
    · cases hq; exact ⟨fun n z => ⟨(fun k h => by cases h), k1, y2, p1, y3⟩, y1⟩
    · cases hq; exact ⟨z1, z2⟩
    · cases hq; exact ⟨w1, w2⟩
