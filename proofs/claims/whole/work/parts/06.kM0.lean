set_option maxHeartbeats 8000000 in
set_option maxRecDepth 100000 in
theorem k_X11_in (l : Launch) (dC : Nat → ClassId) (dI : Nat → Nat → Nat) (cs : Nat → ClassId) (ad : Nat → Nat) (sz : Nat) (p0 : Int32) (p1 : Int32) (p2 : Int32) (r : Int32) (hR : fX11_in p0 p1 p2 = some r) : Met l yX11_in wsX11_in ({ frames := 0, cells := 0, slots := 0, locals := 0 } : Room) (va_Pc [.int p0, .int p1, .int p2] (pW dC dI (tyL cs) (fl []) sz)) (QI dC dI (tyL cs) (va_A (fl []) sz) (fl []) r) 0 0 (va_A (fl []) sz) := by
  refine mt_of (own := RX11) (cc := cX11_in) (maxL := 3) (ret := (some .boolean)) (Qc := fun A => QI dC dI (tyL cs) A (fl []) r) rfl (by decide) rfl (Nat.le_of_ble_eq_true rfl) (fun p e s m below meth c A ls hsz hx hb hr hts hown hlocks hml hA hK hP hD hS hl => ?_)
  subst hsz
  have hl : lv_has ls 3 [(0, .int p0), (1, .int p1), (2, .int p2)] := hl
  refine lv_iload_n hx hb dX11_in_0 rfl (lv_at hl 0 rfl) ?_
  refine lv_iload_n hx hb dX11_in_1 rfl (lv_at hl 1 rfl) ?_
  refine lv_icmp_lt (tgt := 14) hx hb dX11_in_2 (by decide) (fun c2 => ?_) (fun c2 => ?_)
  · replace hR := it_t hR c2
    refine lv_iconst (v := 0) hx hb dX11_in_14 ic_0 ?_
    replace hR := Option.some.inj hR
    have e9 := hR
    exact W.zret (ty := .boolean) hx hb hr (by decide) (fun t ht hW => ⟨⟨_, (), rfl, e9, by rw [ht]; exact hP, va_K.moved hW.alike hK, hD⟩, hS.F ht⟩) hS.2.2 dX11_in_15
  · replace hR := it_f hR c2
    refine lv_iload_n hx hb dX11_in_5 rfl (lv_at hl 0 rfl) ?_
    refine lv_iload_n hx hb dX11_in_6 rfl (lv_at hl 2 rfl) ?_
    refine lv_icmp_gt (tgt := 14) hx hb dX11_in_7 (by decide) (fun c7 => ?_) (fun c7 => ?_)
    · replace hR := it_t hR c7
      refine lv_iconst (v := 0) hx hb dX11_in_14 ic_0 ?_
      replace hR := Option.some.inj hR
      have e9 := hR
      exact W.zret (ty := .boolean) hx hb hr (by decide) (fun t ht hW => ⟨⟨_, (), rfl, e9, by rw [ht]; exact hP, va_K.moved hW.alike hK, hD⟩, hS.F ht⟩) hS.2.2 dX11_in_15
    · replace hR := it_f hR c7
      refine lv_iconst (v := 1) hx hb dX11_in_10 ic_1 ?_
      refine lv_goto (tgt := 15) hx hb dX11_in_11 (by decide) ?_
      replace hR := Option.some.inj hR
      have e9 := hR
      exact W.zret (ty := .boolean) hx hb hr (by decide) (fun t ht hW => ⟨⟨_, (), rfl, e9, by rw [ht]; exact hP, va_K.moved hW.alike hK, hD⟩, hS.F ht⟩) hS.2.2 dX11_in_15
set_option maxHeartbeats 8000000 in
set_option maxRecDepth 100000 in
theorem k_X11_copies (l : Launch) (dC : Nat → ClassId) (dI : Nat → Nat → Nat) (cs : Nat → ClassId) (ad : Nat → Nat) (b1 b2 : Nat) (sz : Nat) (S1 : T1) (S2 : T1) (u2 : T1) (hR : fX11_copies S1 S2 = some u2) : Met l yX11_copies wsX11_copies ({ frames := 0, cells := 0, slots := 0, locals := 0 } : Room) (va_Pc [.ref (ad b1), .ref (ad b2)] (pW dC dI (tyL cs) (fl [(w_A206 ad (b1) cs S1), (w_A206 ad (b2) cs S2)]) sz)) (QV dC dI (tyL cs) (va_A (fl [(w_A206 ad (b1) cs S1), (w_A206 ad (b2) cs S2)]) sz) (fl [(w_A206 ad (b1) cs S1), (w_A206 ad (b2) cs u2)])) 0 0 (va_A (fl [(w_A206 ad (b1) cs S1), (w_A206 ad (b2) cs S2)]) sz) := by
  refine mt_of (own := RX11) (cc := cX11_copies) (maxL := 3) (ret := none) (Qc := fun A => QV dC dI (tyL cs) A (fl [(w_A206 ad (b1) cs S1), (w_A206 ad (b2) cs u2)])) rfl (by decide) rfl (Nat.le_of_ble_eq_true rfl) (fun p e s m below meth c A ls hsz hx hb hr hts hown hlocks hml hA hK hP hD hS hl => ?_)
  subst hsz
  have hl : lv_has ls 3 [(0, .ref (ad b1)), (1, .ref (ad b2))] := hl
  have hB2 : ∀ (n2 : Nat), ∀ (S2_2h : T1) (v2_2 : Int32) (H : Heap) (locs : List Loc) (ls : Array Slot), fX11_copies_2 S1 n2 S2_2h v2_2 = some u2 → va_P (dC, dI) vwCl (fl [(w_A206 ad (b1) cs S1), (w_A206 ad (b2) cs S2_2h)]) H → va_D A (fl [(w_A206 ad (b1) cs S1), (w_A206 ad (b2) cs S2_2h)]) → va_S A s.heap H locs → lv_has ls 3 [(0, .ref (ad b1)), (1, .ref (ad b2)), (2, .int v2_2)] → W p l e (headSpec wsX11_copies ({ frames := 0, cells := 0, slots := 0, locals := 0 } : Room)).room s m ([.ref (ad b1), .ref (ad b2)] : List Value).toArray below meth c H locs 0 0 (MQ below (QV dC dI (tyL cs) A (fl [(w_A206 ad (b1) cs S1), (w_A206 ad (b2) cs u2)])) ([.ref (ad b1), .ref (ad b2)] : List Value).toArray s 0 0 A) (F0 m 2 ls []) := by
    intro n2
    induction n2 with
    | zero =>
      intro S2_2h v2_2 H locs ls hR hP hD hS hl
      exact nn_e hR
    | succ n2 hI2 =>
      intro S2_2h v2_2 H locs ls hR hP hD hS hl
      rw [fX11_copies_2] at hR
      refine lv_iload_n hx hb dX11_copies_2 rfl (lv_at hl 2 rfl) ?_
      refine lv_sipush (v := 206) hx hb dX11_copies_3 sp_206 ?_
      refine lv_icmp_ge (tgt := 21) hx hb dX11_copies_6 (by decide) (fun c6 => ?_) (fun c6 => ?_)
      · replace hR := it_t hR c6
        replace hR := Option.some.inj hR
        have eu2 := hR
        replace hP : va_P (dC, dI) vwCl (fl [(w_A206 ad (b1) cs S1), (w_A206 ad (b2) cs u2)]) H := by rw [← eu2]; exact hP
        replace hD : va_D A (fl [(w_A206 ad (b1) cs S1), (w_A206 ad (b2) cs u2)]) := by rw [← eu2]; exact hD
        exact W.vret hx hb hr (fun t ht hW => ⟨⟨(), rfl, trivial, by rw [ht]; exact hP, va_K.moved hW.alike hK, hD⟩, hS.F ht⟩) hS.2.2 dX11_copies_21
      · replace hR := it_f hR c6
        refine lv_aload_n hx hb dX11_copies_9 rfl (lv_at hl 1 rfl) ?_
        refine lv_iload_n hx hb dX11_copies_10 rfl (lv_at hl 2 rfl) ?_
        refine lv_aload_n hx hb dX11_copies_11 rfl (lv_at hl 0 rfl) ?_
        refine lv_iload_n hx hb dX11_copies_12 rfl (lv_at hl 2 rfl) ?_
        replace hR := gi_e hR
        obtain ⟨i13, hR⟩ := hR
        refine va_iald hx hb hK hP 0 0 rfl rfl i13 dX11_copies_13 ?_
        replace hR := gi_e hR
        obtain ⟨i14, hR⟩ := hR
        refine va_iast hx hb hK hP hD hS 1 0 rfl rfl i14 dX11_copies_14 (fun H14 locs14 hP' hD' hS' => ?_)
        replace hS := hS'
        have hP' : va_P (dC, dI) vwCl (fl [(w_A206 ad (b1) cs S1), (w_A206 ad (b2) cs (sU S2_2h v2_2.toNatClampNeg (S1  v2_2.toNatClampNeg)))]) H14 := hP'
        have hD' : va_D A (fl [(w_A206 ad (b1) cs S1), (w_A206 ad (b2) cs (sU S2_2h v2_2.toNatClampNeg (S1  v2_2.toNatClampNeg)))]) := hD'
        replace hR := bn_e hR
        obtain ⟨S2_14, eS2_14, hR⟩ := hR
        replace hP : va_P (dC, dI) vwCl (fl [(w_A206 ad (b1) cs S1), (w_A206 ad (b2) cs S2_14)]) H14 := by rw [eS2_14]; exact hP'
        replace hD : va_D A (fl [(w_A206 ad (b1) cs S1), (w_A206 ad (b2) cs S2_14)]) := by rw [eS2_14]; exact hD'
        clear hP' hD' hS'
        refine lv_iinc (v := (v2_2 + 1)) (lv' := [(2, .int (v2_2 + 1)), (0, .ref (ad b1)), (1, .ref (ad b2))]) hx hb dX11_copies_15 hl (k := 2) rfl rfl (Nat.le_of_ble_eq_true rfl) rfl (fun ls hl => ?_)
        refine lv_goto (tgt := 2) hx hb dX11_copies_18 (by decide) ?_
        exact hI2 S2_14 (v2_2 + 1) H14 _ ls hR hP hD hS (lv_sub hl [1, 2, 0] rfl)
  refine lv_iconst (v := 0) hx hb dX11_copies_0 ic_0 ?_
  refine lv_istore_n (lv' := [(2, .int (0 : Int32)), (0, .ref (ad b1)), (1, .ref (ad b2))]) hx hb dX11_copies_1 rfl hl (Nat.le_of_ble_eq_true rfl) rfl (fun ls hl => ?_)
  exact hB2 fuel S2 (0 : Int32) s.heap _ ls hR hP hD hS (lv_sub hl [1, 2, 0] rfl)
set_option maxHeartbeats 8000000 in
set_option maxRecDepth 100000 in
theorem k_X11_changes (l : Launch) (dC : Nat → ClassId) (dI : Nat → Nat → Nat) (cs : Nat → ClassId) (ad : Nat → Nat) (b1 : Nat) (sz : Nat) (S1 : T2) (u1 : T2) (hR : fX11_changes S1 = some u1) : Met l yX11_changes wsX11_changes ({ frames := 0, cells := 0, slots := 0, locals := 0 } : Room) (va_Pc [.ref (ad b1)] (pW dC dI (tyL cs) (fl [(w_X11 ad (b1) cs S1)]) sz)) (QV dC dI (tyL cs) (va_A (fl [(w_X11 ad (b1) cs S1)]) sz) (fl [(w_X11 ad (b1) cs u1)])) 0 0 (va_A (fl [(w_X11 ad (b1) cs S1)]) sz) := by
  refine mt_of (own := RX11) (cc := cX11_changes) (maxL := 2) (ret := none) (Qc := fun A => QV dC dI (tyL cs) A (fl [(w_X11 ad (b1) cs u1)])) rfl (by decide) rfl (Nat.le_of_ble_eq_true rfl) (fun p e s m below meth c A ls hsz hx hb hr hts hown hlocks hml hA hK hP hD hS hl => ?_)
  subst hsz
  have hl : lv_has ls 2 [(0, .ref (ad b1))] := hl
  have hF7 := hts (.fieldLink RX11 7 "DockedBikesModel" "s" "[I") (List.mem_of_getElem? (i := 4) rfl)
  have hF13 := hts (.fieldLink RX11 13 "DockedBikesModel" "past" "[I") (List.mem_of_getElem? (i := 3) rfl)
  have hF28 := hts (.fieldLink RX11 28 "DockedBikesModel" "runs" "Z") (List.mem_of_getElem? (i := 1) rfl)
  have hF32 := hts (.fieldLink RX11 32 "DockedBikesModel" "pasts" "I") (List.mem_of_getElem? (i := 2) rfl)
  have hinX11 : ∀ w ∈ wsX110, w ∈ wsX11_changes := by decide +kernel
  have hB59 : ∀ (n59 : Nat), ∀ (S1_59h : T2) (v1_59 : Int32) (H : Heap) (locs : List Loc) (ls : Array Slot), fX11_changes_59 n59 S1_59h v1_59 = some u1 → va_P (dC, dI) vwCl (fl [(w_X11 ad (b1) cs S1_59h)]) H → va_D A (fl [(w_X11 ad (b1) cs S1_59h)]) → va_S A s.heap H locs → lv_has ls 2 [(0, .ref (ad b1)), (1, .int v1_59)] → W p l e (headSpec wsX11_changes ({ frames := 0, cells := 0, slots := 0, locals := 0 } : Room)).room s m ([.ref (ad b1)] : List Value).toArray below meth c H locs 0 0 (MQ below (QV dC dI (tyL cs) A (fl [(w_X11 ad (b1) cs u1)])) ([.ref (ad b1)] : List Value).toArray s 0 0 A) (F0 m 59 ls []) := by
    intro n59
    induction n59 with
    | zero =>
      intro S1_59h v1_59 H locs ls hR hP hD hS hl
      exact nn_e hR
    | succ n59 hI59 =>
      intro S1_59h v1_59 H locs ls hR hP hD hS hl
      rw [fX11_changes_59] at hR
      refine lv_iload_n hx hb dX11_changes_59 rfl (lv_at hl 1 rfl) ?_
      refine lv_sipush (v := 206) hx hb dX11_changes_60 sp_206 ?_
      refine lv_icmp_ge (tgt := 93) hx hb dX11_changes_63 (by decide) (fun c63 => ?_) (fun c63 => ?_)
      · replace hR := it_t hR c63
        refine lv_aload_n hx hb dX11_changes_93 rfl (lv_at hl 0 rfl) ?_
        refine lv_dup hx hb dX11_changes_94 rfl ?_
        refine va_get (D := (dC, dI)) (ci := 9) (v := .int (S1_59h 6 1)) (C := RX11) (T := TX11) (N := 14) hx hb hts hinX11 hown hK hP 0 rfl rfl 5 (by decide) hF32 (fun _ h9 => h9) rfl dX11_changes_95 ?_
        refine lv_iconst (v := 1) hx hb dX11_changes_98 ic_1 ?_
        refine lv_iadd hx hb dX11_changes_99 ?_
        refine va_put (D := (dC, dI)) (ci := 9) (v := .int ((S1_59h 6 1) + 1)) (ty := .int) (C := RX11) (T := TX11) (N := 14) hx hb hts hinX11 tyX11 tyX11_ok nmX11 hown hK hP hD hS 0 rfl rfl 5 (by decide) hF32 (fun _ h9 => h9) rfl (by decide +kernel) rfl rfl (Nat.le_of_ble_eq_true rfl) dX11_changes_100 (fun H100 locs100 hP' hD' hS' => ?_)
        replace hS := hS'
        have hP' : va_P (dC, dI) vwCl (fl [(w_X11 ad (b1) cs (sU S1_59h 6 (sU (S1_59h 6) 1 ((S1_59h 6 1) + 1))))]) H100 := hP'
        have hD' : va_D A (fl [(w_X11 ad (b1) cs (sU S1_59h 6 (sU (S1_59h 6) 1 ((S1_59h 6 1) + 1))))]) := hD'
        replace hR := bn_e hR
        obtain ⟨S1_100, eS1_100, hR⟩ := hR
        replace hP : va_P (dC, dI) vwCl (fl [(w_X11 ad (b1) cs S1_100)]) H100 := by rw [eS1_100]; exact hP'
        replace hD : va_D A (fl [(w_X11 ad (b1) cs S1_100)]) := by rw [eS1_100]; exact hD'
        clear hP' hD' hS'
        replace hR := Option.some.inj hR
        have eu1 := hR
        replace hP : va_P (dC, dI) vwCl (fl [(w_X11 ad (b1) cs u1)]) H100 := by rw [← eu1]; exact hP
        replace hD : va_D A (fl [(w_X11 ad (b1) cs u1)]) := by rw [← eu1]; exact hD
        exact W.vret hx hb hr (fun t ht hW => ⟨⟨(), rfl, trivial, by rw [ht]; exact hP, va_K.moved hW.alike hK, hD⟩, hS.F ht⟩) hS.2.2 dX11_changes_103
      · replace hR := it_f hR c63
        refine lv_aload_n hx hb dX11_changes_66 rfl (lv_at hl 0 rfl) ?_
        refine va_get (D := (dC, dI)) (ci := 9) (v := .ref (ad (b1 + 2))) (C := RX11) (T := TX11) (N := 14) hx hb hts hinX11 hown hK hP 0 rfl rfl 1 (by decide) hF13 (fun _ h9 => h9) rfl dX11_changes_67 ?_
        refine lv_sipush (v := 206) hx hb dX11_changes_70 sp_206 ?_
        refine lv_aload_n hx hb dX11_changes_73 rfl (lv_at hl 0 rfl) ?_
        refine va_get (D := (dC, dI)) (ci := 9) (v := .int (S1_59h 6 1)) (C := RX11) (T := TX11) (N := 14) hx hb hts hinX11 hown hK hP 0 rfl rfl 5 (by decide) hF32 (fun _ h9 => h9) rfl dX11_changes_74 ?_
        refine lv_imul hx hb dX11_changes_77 ?_
        refine lv_iload_n hx hb dX11_changes_78 rfl (lv_at hl 1 rfl) ?_
        refine lv_iadd hx hb dX11_changes_79 ?_
        refine lv_aload_n hx hb dX11_changes_80 rfl (lv_at hl 0 rfl) ?_
        refine va_get (D := (dC, dI)) (ci := 9) (v := .ref (ad (b1 + 1))) (C := RX11) (T := TX11) (N := 14) hx hb hts hinX11 hown hK hP 0 rfl rfl 0 (by decide) hF7 (fun _ h9 => h9) rfl dX11_changes_81 ?_
        refine lv_iload_n hx hb dX11_changes_84 rfl (lv_at hl 1 rfl) ?_
        replace hR := gi_e hR
        obtain ⟨i85, hR⟩ := hR
        refine va_iald hx hb hK hP 1 0 rfl rfl i85 dX11_changes_85 ?_
        replace hR := gi_e hR
        obtain ⟨i86, hR⟩ := hR
        refine va_iast hx hb hK hP hD hS 2 0 rfl rfl i86 dX11_changes_86 (fun H86 locs86 hP' hD' hS' => ?_)
        replace hS := hS'
        have hP' : va_P (dC, dI) vwCl (fl [(w_X11 ad (b1) cs (sU S1_59h 1 (sU (S1_59h 1) (((206 : Int32) * (S1_59h 6 1)) + v1_59).toNatClampNeg (S1_59h 0 v1_59.toNatClampNeg))))]) H86 := hP'
        have hD' : va_D A (fl [(w_X11 ad (b1) cs (sU S1_59h 1 (sU (S1_59h 1) (((206 : Int32) * (S1_59h 6 1)) + v1_59).toNatClampNeg (S1_59h 0 v1_59.toNatClampNeg))))]) := hD'
        replace hR := bn_e hR
        obtain ⟨S1_86, eS1_86, hR⟩ := hR
        replace hP : va_P (dC, dI) vwCl (fl [(w_X11 ad (b1) cs S1_86)]) H86 := by rw [eS1_86]; exact hP'
        replace hD : va_D A (fl [(w_X11 ad (b1) cs S1_86)]) := by rw [eS1_86]; exact hD'
        clear hP' hD' hS'
        refine lv_iinc (v := (v1_59 + 1)) (lv' := [(1, .int (v1_59 + 1)), (0, .ref (ad b1))]) hx hb dX11_changes_87 hl (k := 1) rfl rfl (Nat.le_of_ble_eq_true rfl) rfl (fun ls hl => ?_)
        refine lv_goto (tgt := 59) hx hb dX11_changes_90 (by decide) ?_
        exact hI59 S1_86 (v1_59 + 1) H86 _ ls hR hP hD hS (lv_sub hl [1, 0] rfl)
  have hB57 : ∀ (S1_57h : T2) (H : Heap) (locs : List Loc) (ls : Array Slot), fX11_changes_57 S1_57h = some u1 → va_P (dC, dI) vwCl (fl [(w_X11 ad (b1) cs S1_57h)]) H → va_D A (fl [(w_X11 ad (b1) cs S1_57h)]) → va_S A s.heap H locs → lv_has ls 2 [(0, .ref (ad b1))] → W p l e (headSpec wsX11_changes ({ frames := 0, cells := 0, slots := 0, locals := 0 } : Room)).room s m ([.ref (ad b1)] : List Value).toArray below meth c H locs 0 0 (MQ below (QV dC dI (tyL cs) A (fl [(w_X11 ad (b1) cs u1)])) ([.ref (ad b1)] : List Value).toArray s 0 0 A) (F0 m 57 ls []) := by
    intro S1_57h H locs ls hR hP hD hS hl
    refine lv_iconst (v := 0) hx hb dX11_changes_57 ic_0 ?_
    refine lv_istore_n (lv' := [(1, .int (0 : Int32)), (0, .ref (ad b1))]) hx hb dX11_changes_58 rfl hl (Nat.le_of_ble_eq_true rfl) rfl (fun ls hl => ?_)
    exact hB59 fuel S1_57h (0 : Int32) H _ ls hR hP hD hS (lv_sub hl [1, 0] rfl)
  have hB18 : ∀ (n18 : Nat), ∀ (S1_18h : T2) (v1_18 : Int32) (H : Heap) (locs : List Loc) (ls : Array Slot), fX11_changes_18 n18 S1_18h v1_18 = some u1 → va_P (dC, dI) vwCl (fl [(w_X11 ad (b1) cs S1_18h)]) H → va_D A (fl [(w_X11 ad (b1) cs S1_18h)]) → va_S A s.heap H locs → lv_has ls 2 [(0, .ref (ad b1)), (1, .int v1_18)] → W p l e (headSpec wsX11_changes ({ frames := 0, cells := 0, slots := 0, locals := 0 } : Room)).room s m ([.ref (ad b1)] : List Value).toArray below meth c H locs 0 0 (MQ below (QV dC dI (tyL cs) A (fl [(w_X11 ad (b1) cs u1)])) ([.ref (ad b1)] : List Value).toArray s 0 0 A) (F0 m 18 ls []) := by
    intro n18
    induction n18 with
    | zero =>
      intro S1_18h v1_18 H locs ls hR hP hD hS hl
      exact nn_e hR
    | succ n18 hI18 =>
      intro S1_18h v1_18 H locs ls hR hP hD hS hl
      rw [fX11_changes_18] at hR
      refine lv_iload_n hx hb dX11_changes_18 rfl (lv_at hl 1 rfl) ?_
      refine lv_sipush (v := 618) hx hb dX11_changes_19 sp_618 ?_
      refine lv_icmp_ge (tgt := 47) hx hb dX11_changes_22 (by decide) (fun c22 => ?_) (fun c22 => ?_)
      · replace hR := it_t hR c22
        refine lv_aload_n hx hb dX11_changes_47 rfl (lv_at hl 0 rfl) ?_
        refine lv_dup hx hb dX11_changes_48 rfl ?_
        refine va_get (D := (dC, dI)) (ci := 9) (v := .int (S1_18h 6 1)) (C := RX11) (T := TX11) (N := 14) hx hb hts hinX11 hown hK hP 0 rfl rfl 5 (by decide) hF32 (fun _ h9 => h9) rfl dX11_changes_49 ?_
        refine lv_iconst (v := 1) hx hb dX11_changes_52 ic_1 ?_
        refine lv_isub hx hb dX11_changes_53 ?_
        refine va_put (D := (dC, dI)) (ci := 9) (v := .int ((S1_18h 6 1) - 1)) (ty := .int) (C := RX11) (T := TX11) (N := 14) hx hb hts hinX11 tyX11 tyX11_ok nmX11 hown hK hP hD hS 0 rfl rfl 5 (by decide) hF32 (fun _ h9 => h9) rfl (by decide +kernel) rfl rfl (Nat.le_of_ble_eq_true rfl) dX11_changes_54 (fun H54 locs54 hP' hD' hS' => ?_)
        replace hS := hS'
        have hP' : va_P (dC, dI) vwCl (fl [(w_X11 ad (b1) cs (sU S1_18h 6 (sU (S1_18h 6) 1 ((S1_18h 6 1) - 1))))]) H54 := hP'
        have hD' : va_D A (fl [(w_X11 ad (b1) cs (sU S1_18h 6 (sU (S1_18h 6) 1 ((S1_18h 6 1) - 1))))]) := hD'
        replace hR := bn_e hR
        obtain ⟨S1_54, eS1_54, hR⟩ := hR
        replace hP : va_P (dC, dI) vwCl (fl [(w_X11 ad (b1) cs S1_54)]) H54 := by rw [eS1_54]; exact hP'
        replace hD : va_D A (fl [(w_X11 ad (b1) cs S1_54)]) := by rw [eS1_54]; exact hD'
        clear hP' hD' hS'
        exact hB57 S1_54 H54 _ ls hR hP hD hS (lv_sub hl [0] rfl)
      · replace hR := it_f hR c22
        refine lv_aload_n hx hb dX11_changes_25 rfl (lv_at hl 0 rfl) ?_
        refine va_get (D := (dC, dI)) (ci := 9) (v := .ref (ad (b1 + 2))) (C := RX11) (T := TX11) (N := 14) hx hb hts hinX11 hown hK hP 0 rfl rfl 1 (by decide) hF13 (fun _ h9 => h9) rfl dX11_changes_26 ?_
        refine lv_iload_n hx hb dX11_changes_29 rfl (lv_at hl 1 rfl) ?_
        refine lv_aload_n hx hb dX11_changes_30 rfl (lv_at hl 0 rfl) ?_
        refine va_get (D := (dC, dI)) (ci := 9) (v := .ref (ad (b1 + 2))) (C := RX11) (T := TX11) (N := 14) hx hb hts hinX11 hown hK hP 0 rfl rfl 1 (by decide) hF13 (fun _ h9 => h9) rfl dX11_changes_31 ?_
        refine lv_iload_n hx hb dX11_changes_34 rfl (lv_at hl 1 rfl) ?_
        refine lv_sipush (v := 206) hx hb dX11_changes_35 sp_206 ?_
        refine lv_iadd hx hb dX11_changes_38 ?_
        replace hR := gi_e hR
        obtain ⟨i39, hR⟩ := hR
        refine va_iald hx hb hK hP 2 0 rfl rfl i39 dX11_changes_39 ?_
        replace hR := gi_e hR
        obtain ⟨i40, hR⟩ := hR
        refine va_iast hx hb hK hP hD hS 2 0 rfl rfl i40 dX11_changes_40 (fun H40 locs40 hP' hD' hS' => ?_)
        replace hS := hS'
        have hP' : va_P (dC, dI) vwCl (fl [(w_X11 ad (b1) cs (sU S1_18h 1 (sU (S1_18h 1) v1_18.toNatClampNeg (S1_18h 1 (v1_18 + 206).toNatClampNeg))))]) H40 := hP'
        have hD' : va_D A (fl [(w_X11 ad (b1) cs (sU S1_18h 1 (sU (S1_18h 1) v1_18.toNatClampNeg (S1_18h 1 (v1_18 + 206).toNatClampNeg))))]) := hD'
        replace hR := bn_e hR
        obtain ⟨S1_40, eS1_40, hR⟩ := hR
        replace hP : va_P (dC, dI) vwCl (fl [(w_X11 ad (b1) cs S1_40)]) H40 := by rw [eS1_40]; exact hP'
        replace hD : va_D A (fl [(w_X11 ad (b1) cs S1_40)]) := by rw [eS1_40]; exact hD'
        clear hP' hD' hS'
        refine lv_iinc (v := (v1_18 + 1)) (lv' := [(1, .int (v1_18 + 1)), (0, .ref (ad b1))]) hx hb dX11_changes_41 hl (k := 1) rfl rfl (Nat.le_of_ble_eq_true rfl) rfl (fun ls hl => ?_)
        refine lv_goto (tgt := 18) hx hb dX11_changes_44 (by decide) ?_
        exact hI18 S1_40 (v1_18 + 1) H40 _ ls hR hP hD hS (lv_sub hl [1, 0] rfl)
  refine lv_aload_n hx hb dX11_changes_0 rfl (lv_at hl 0 rfl) ?_
  refine va_get (D := (dC, dI)) (ci := 9) (v := .int (S1 6 2)) (C := RX11) (T := TX11) (N := 14) hx hb hts hinX11 hown hK hP 0 rfl rfl 6 (by decide) hF28 (fun _ h9 => h9) rfl dX11_changes_1 ?_
  refine lv_if_eq (tgt := 8) hx hb dX11_changes_4 (by decide) (fun c4 => ?_) (fun c4 => ?_)
  · replace hR := it_t hR c4
    refine lv_aload_n hx hb dX11_changes_8 rfl (lv_at hl 0 rfl) ?_
    refine va_get (D := (dC, dI)) (ci := 9) (v := .int (S1 6 1)) (C := RX11) (T := TX11) (N := 14) hx hb hts hinX11 hown hK hP 0 rfl rfl 5 (by decide) hF32 (fun _ h9 => h9) rfl dX11_changes_9 ?_
    refine lv_iconst (v := 4) hx hb dX11_changes_12 ic_4 ?_
    refine lv_icmp_ne (tgt := 57) hx hb dX11_changes_13 (by decide) (fun c13 => ?_) (fun c13 => ?_)
    · replace hR := it_f hR c13
      exact hB57 S1 s.heap _ ls hR hP hD hS (lv_sub hl [0] rfl)
    · replace hR := it_t hR c13
      refine lv_iconst (v := 0) hx hb dX11_changes_16 ic_0 ?_
      refine lv_istore_n (lv' := [(1, .int (0 : Int32)), (0, .ref (ad b1))]) hx hb dX11_changes_17 rfl hl (Nat.le_of_ble_eq_true rfl) rfl (fun ls hl => ?_)
      exact hB18 fuel S1 (0 : Int32) s.heap _ ls hR hP hD hS (lv_sub hl [1, 0] rfl)
  · replace hR := it_f hR c4
    replace hR := Option.some.inj hR
    have eu1 := hR
    replace hP : va_P (dC, dI) vwCl (fl [(w_X11 ad (b1) cs u1)]) s.heap := by rw [← eu1]; exact hP
    replace hD : va_D A (fl [(w_X11 ad (b1) cs u1)]) := by rw [← eu1]; exact hD
    exact W.vret hx hb hr (fun t ht hW => ⟨⟨(), rfl, trivial, by rw [ht]; exact hP, va_K.moved hW.alike hK, hD⟩, hS.F ht⟩) hS.2.2 dX11_changes_7
set_option maxHeartbeats 8000000 in
set_option maxRecDepth 100000 in
theorem k_X11_isStation (l : Launch) (dC : Nat → ClassId) (dI : Nat → Nat → Nat) (cs : Nat → ClassId) (ad : Nat → Nat) (b1 : Nat) (sz : Nat) (S1 : T2) (p1 : Int32) (r : Int32) (hR : fX11_isStation S1 p1 = some r) : Met l yX11_isStation wsX11_isStation ({ frames := 0, cells := 0, slots := 0, locals := 0 } : Room) (va_Pc [.ref (ad b1), .int p1] (pW dC dI (tyL cs) (fl [(w_X11 ad (b1) cs S1)]) sz)) (QI dC dI (tyL cs) (va_A (fl [(w_X11 ad (b1) cs S1)]) sz) (fl [(w_X11 ad (b1) cs S1)]) r) 0 0 (va_A (fl [(w_X11 ad (b1) cs S1)]) sz) := by
  refine mt_of (own := RX11) (cc := cX11_isStation) (maxL := 2) (ret := (some .boolean)) (Qc := fun A => QI dC dI (tyL cs) A (fl [(w_X11 ad (b1) cs S1)]) r) rfl (by decide) rfl (Nat.le_of_ble_eq_true rfl) (fun p e s m below meth c A ls hsz hx hb hr hts hown hlocks hml hA hK hP hD hS hl => ?_)
  subst hsz
  have hl : lv_has ls 2 [(0, .ref (ad b1)), (1, .int p1)] := hl
  have hF7 := hts (.fieldLink RX11 7 "DockedBikesModel" "s" "[I") (List.mem_of_getElem? (i := 1) rfl)
  have hinX11 : ∀ w ∈ wsX110, w ∈ wsX11_isStation := by decide +kernel
  refine lv_iload_n hx hb dX11_isStation_0 rfl (lv_at hl 1 rfl) ?_
  refine lv_if_lt (tgt := 18) hx hb dX11_isStation_1 (by decide) (fun c1 => ?_) (fun c1 => ?_)
  · replace hR := it_t hR c1
    refine lv_iconst (v := 0) hx hb dX11_isStation_18 ic_0 ?_
    replace hR := Option.some.inj hR
    have e9 := hR
    exact W.zret (ty := .boolean) hx hb hr (by decide) (fun t ht hW => ⟨⟨_, (), rfl, e9, by rw [ht]; exact hP, va_K.moved hW.alike hK, hD⟩, hS.F ht⟩) hS.2.2 dX11_isStation_19
  · replace hR := it_f hR c1
    refine lv_iload_n hx hb dX11_isStation_4 rfl (lv_at hl 1 rfl) ?_
    refine lv_aload_n hx hb dX11_isStation_5 rfl (lv_at hl 0 rfl) ?_
    refine va_get (D := (dC, dI)) (ci := 9) (v := .ref (ad (b1 + 1))) (C := RX11) (T := TX11) (N := 14) hx hb hts hinX11 hown hK hP 0 rfl rfl 0 (by decide) hF7 (fun _ h9 => h9) rfl dX11_isStation_6 ?_
    refine lv_iconst (v := 0) hx hb dX11_isStation_9 ic_0 ?_
    refine va_iald hx hb hK hP 1 0 rfl rfl vi_0_206 dX11_isStation_10 ?_
    refine lv_icmp_ge (tgt := 18) hx hb dX11_isStation_11 (by decide) (fun c11 => ?_) (fun c11 => ?_)
    · replace hR := it_t hR c11
      refine lv_iconst (v := 0) hx hb dX11_isStation_18 ic_0 ?_
      replace hR := Option.some.inj hR
      have e9 := hR
      exact W.zret (ty := .boolean) hx hb hr (by decide) (fun t ht hW => ⟨⟨_, (), rfl, e9, by rw [ht]; exact hP, va_K.moved hW.alike hK, hD⟩, hS.F ht⟩) hS.2.2 dX11_isStation_19
    · replace hR := it_f hR c11
      refine lv_iconst (v := 1) hx hb dX11_isStation_14 ic_1 ?_
      refine lv_goto (tgt := 19) hx hb dX11_isStation_15 (by decide) ?_
      replace hR := Option.some.inj hR
      have e9 := hR
      exact W.zret (ty := .boolean) hx hb hr (by decide) (fun t ht hW => ⟨⟨_, (), rfl, e9, by rw [ht]; exact hP, va_K.moved hW.alike hK, hD⟩, hS.F ht⟩) hS.2.2 dX11_isStation_19
set_option maxHeartbeats 8000000 in
set_option maxRecDepth 100000 in
theorem k_X11_isBicycle (l : Launch) (dC : Nat → ClassId) (dI : Nat → Nat → Nat) (cs : Nat → ClassId) (ad : Nat → Nat) (b1 : Nat) (sz : Nat) (S1 : T2) (p1 : Int32) (r : Int32) (hR : fX11_isBicycle S1 p1 = some r) : Met l yX11_isBicycle wsX11_isBicycle ({ frames := 0, cells := 0, slots := 0, locals := 0 } : Room) (va_Pc [.ref (ad b1), .int p1] (pW dC dI (tyL cs) (fl [(w_X11 ad (b1) cs S1)]) sz)) (QI dC dI (tyL cs) (va_A (fl [(w_X11 ad (b1) cs S1)]) sz) (fl [(w_X11 ad (b1) cs S1)]) r) 0 0 (va_A (fl [(w_X11 ad (b1) cs S1)]) sz) := by
  refine mt_of (own := RX11) (cc := cX11_isBicycle) (maxL := 2) (ret := (some .boolean)) (Qc := fun A => QI dC dI (tyL cs) A (fl [(w_X11 ad (b1) cs S1)]) r) rfl (by decide) rfl (Nat.le_of_ble_eq_true rfl) (fun p e s m below meth c A ls hsz hx hb hr hts hown hlocks hml hA hK hP hD hS hl => ?_)
  subst hsz
  have hl : lv_has ls 2 [(0, .ref (ad b1)), (1, .int p1)] := hl
  have hF7 := hts (.fieldLink RX11 7 "DockedBikesModel" "s" "[I") (List.mem_of_getElem? (i := 1) rfl)
  have hinX11 : ∀ w ∈ wsX110, w ∈ wsX11_isBicycle := by decide +kernel
  refine lv_iload_n hx hb dX11_isBicycle_0 rfl (lv_at hl 1 rfl) ?_
  refine lv_if_lt (tgt := 18) hx hb dX11_isBicycle_1 (by decide) (fun c1 => ?_) (fun c1 => ?_)
  · replace hR := it_t hR c1
    refine lv_iconst (v := 0) hx hb dX11_isBicycle_18 ic_0 ?_
    replace hR := Option.some.inj hR
    have e9 := hR
    exact W.zret (ty := .boolean) hx hb hr (by decide) (fun t ht hW => ⟨⟨_, (), rfl, e9, by rw [ht]; exact hP, va_K.moved hW.alike hK, hD⟩, hS.F ht⟩) hS.2.2 dX11_isBicycle_19
  · replace hR := it_f hR c1
    refine lv_iload_n hx hb dX11_isBicycle_4 rfl (lv_at hl 1 rfl) ?_
    refine lv_aload_n hx hb dX11_isBicycle_5 rfl (lv_at hl 0 rfl) ?_
    refine va_get (D := (dC, dI)) (ci := 9) (v := .ref (ad (b1 + 1))) (C := RX11) (T := TX11) (N := 14) hx hb hts hinX11 hown hK hP 0 rfl rfl 0 (by decide) hF7 (fun _ h9 => h9) rfl dX11_isBicycle_6 ?_
    refine lv_iconst (v := 1) hx hb dX11_isBicycle_9 ic_1 ?_
    refine va_iald hx hb hK hP 1 0 rfl rfl vi_1_206 dX11_isBicycle_10 ?_
    refine lv_icmp_ge (tgt := 18) hx hb dX11_isBicycle_11 (by decide) (fun c11 => ?_) (fun c11 => ?_)
    · replace hR := it_t hR c11
      refine lv_iconst (v := 0) hx hb dX11_isBicycle_18 ic_0 ?_
      replace hR := Option.some.inj hR
      have e9 := hR
      exact W.zret (ty := .boolean) hx hb hr (by decide) (fun t ht hW => ⟨⟨_, (), rfl, e9, by rw [ht]; exact hP, va_K.moved hW.alike hK, hD⟩, hS.F ht⟩) hS.2.2 dX11_isBicycle_19
    · replace hR := it_f hR c11
      refine lv_iconst (v := 1) hx hb dX11_isBicycle_14 ic_1 ?_
      refine lv_goto (tgt := 19) hx hb dX11_isBicycle_15 (by decide) ?_
      replace hR := Option.some.inj hR
      have e9 := hR
      exact W.zret (ty := .boolean) hx hb hr (by decide) (fun t ht hW => ⟨⟨_, (), rfl, e9, by rw [ht]; exact hP, va_K.moved hW.alike hK, hD⟩, hS.F ht⟩) hS.2.2 dX11_isBicycle_19
set_option maxHeartbeats 8000000 in
set_option maxRecDepth 100000 in
theorem k_X11_isRider (l : Launch) (dC : Nat → ClassId) (dI : Nat → Nat → Nat) (cs : Nat → ClassId) (ad : Nat → Nat) (b1 : Nat) (sz : Nat) (S1 : T2) (p1 : Int32) (r : Int32) (hR : fX11_isRider S1 p1 = some r) : Met l yX11_isRider wsX11_isRider ({ frames := 0, cells := 0, slots := 0, locals := 0 } : Room) (va_Pc [.ref (ad b1), .int p1] (pW dC dI (tyL cs) (fl [(w_X11 ad (b1) cs S1)]) sz)) (QI dC dI (tyL cs) (va_A (fl [(w_X11 ad (b1) cs S1)]) sz) (fl [(w_X11 ad (b1) cs S1)]) r) 0 0 (va_A (fl [(w_X11 ad (b1) cs S1)]) sz) := by
  refine mt_of (own := RX11) (cc := cX11_isRider) (maxL := 2) (ret := (some .boolean)) (Qc := fun A => QI dC dI (tyL cs) A (fl [(w_X11 ad (b1) cs S1)]) r) rfl (by decide) rfl (Nat.le_of_ble_eq_true rfl) (fun p e s m below meth c A ls hsz hx hb hr hts hown hlocks hml hA hK hP hD hS hl => ?_)
  subst hsz
  have hl : lv_has ls 2 [(0, .ref (ad b1)), (1, .int p1)] := hl
  have hF7 := hts (.fieldLink RX11 7 "DockedBikesModel" "s" "[I") (List.mem_of_getElem? (i := 1) rfl)
  have hinX11 : ∀ w ∈ wsX110, w ∈ wsX11_isRider := by decide +kernel
  refine lv_iload_n hx hb dX11_isRider_0 rfl (lv_at hl 1 rfl) ?_
  refine lv_if_lt (tgt := 18) hx hb dX11_isRider_1 (by decide) (fun c1 => ?_) (fun c1 => ?_)
  · replace hR := it_t hR c1
    refine lv_iconst (v := 0) hx hb dX11_isRider_18 ic_0 ?_
    replace hR := Option.some.inj hR
    have e9 := hR
    exact W.zret (ty := .boolean) hx hb hr (by decide) (fun t ht hW => ⟨⟨_, (), rfl, e9, by rw [ht]; exact hP, va_K.moved hW.alike hK, hD⟩, hS.F ht⟩) hS.2.2 dX11_isRider_19
  · replace hR := it_f hR c1
    refine lv_iload_n hx hb dX11_isRider_4 rfl (lv_at hl 1 rfl) ?_
    refine lv_aload_n hx hb dX11_isRider_5 rfl (lv_at hl 0 rfl) ?_
    refine va_get (D := (dC, dI)) (ci := 9) (v := .ref (ad (b1 + 1))) (C := RX11) (T := TX11) (N := 14) hx hb hts hinX11 hown hK hP 0 rfl rfl 0 (by decide) hF7 (fun _ h9 => h9) rfl dX11_isRider_6 ?_
    refine lv_iconst (v := 2) hx hb dX11_isRider_9 ic_2 ?_
    refine va_iald hx hb hK hP 1 0 rfl rfl vi_2_206 dX11_isRider_10 ?_
    refine lv_icmp_ge (tgt := 18) hx hb dX11_isRider_11 (by decide) (fun c11 => ?_) (fun c11 => ?_)
    · replace hR := it_t hR c11
      refine lv_iconst (v := 0) hx hb dX11_isRider_18 ic_0 ?_
      replace hR := Option.some.inj hR
      have e9 := hR
      exact W.zret (ty := .boolean) hx hb hr (by decide) (fun t ht hW => ⟨⟨_, (), rfl, e9, by rw [ht]; exact hP, va_K.moved hW.alike hK, hD⟩, hS.F ht⟩) hS.2.2 dX11_isRider_19
    · replace hR := it_f hR c11
      refine lv_iconst (v := 1) hx hb dX11_isRider_14 ic_1 ?_
      refine lv_goto (tgt := 19) hx hb dX11_isRider_15 (by decide) ?_
      replace hR := Option.some.inj hR
      have e9 := hR
      exact W.zret (ty := .boolean) hx hb hr (by decide) (fun t ht hW => ⟨⟨_, (), rfl, e9, by rw [ht]; exact hP, va_K.moved hW.alike hK, hD⟩, hS.F ht⟩) hS.2.2 dX11_isRider_19
set_option maxHeartbeats 8000000 in
set_option maxRecDepth 100000 in
theorem k_X11_isVan (l : Launch) (dC : Nat → ClassId) (dI : Nat → Nat → Nat) (cs : Nat → ClassId) (ad : Nat → Nat) (b1 : Nat) (sz : Nat) (S1 : T2) (p1 : Int32) (r : Int32) (hR : fX11_isVan S1 p1 = some r) : Met l yX11_isVan wsX11_isVan ({ frames := 0, cells := 0, slots := 0, locals := 0 } : Room) (va_Pc [.ref (ad b1), .int p1] (pW dC dI (tyL cs) (fl [(w_X11 ad (b1) cs S1)]) sz)) (QI dC dI (tyL cs) (va_A (fl [(w_X11 ad (b1) cs S1)]) sz) (fl [(w_X11 ad (b1) cs S1)]) r) 0 0 (va_A (fl [(w_X11 ad (b1) cs S1)]) sz) := by
  refine mt_of (own := RX11) (cc := cX11_isVan) (maxL := 2) (ret := (some .boolean)) (Qc := fun A => QI dC dI (tyL cs) A (fl [(w_X11 ad (b1) cs S1)]) r) rfl (by decide) rfl (Nat.le_of_ble_eq_true rfl) (fun p e s m below meth c A ls hsz hx hb hr hts hown hlocks hml hA hK hP hD hS hl => ?_)
  subst hsz
  have hl : lv_has ls 2 [(0, .ref (ad b1)), (1, .int p1)] := hl
  have hF7 := hts (.fieldLink RX11 7 "DockedBikesModel" "s" "[I") (List.mem_of_getElem? (i := 1) rfl)
  have hinX11 : ∀ w ∈ wsX110, w ∈ wsX11_isVan := by decide +kernel
  refine lv_iload_n hx hb dX11_isVan_0 rfl (lv_at hl 1 rfl) ?_
  refine lv_if_lt (tgt := 18) hx hb dX11_isVan_1 (by decide) (fun c1 => ?_) (fun c1 => ?_)
  · replace hR := it_t hR c1
    refine lv_iconst (v := 0) hx hb dX11_isVan_18 ic_0 ?_
    replace hR := Option.some.inj hR
    have e9 := hR
    exact W.zret (ty := .boolean) hx hb hr (by decide) (fun t ht hW => ⟨⟨_, (), rfl, e9, by rw [ht]; exact hP, va_K.moved hW.alike hK, hD⟩, hS.F ht⟩) hS.2.2 dX11_isVan_19
  · replace hR := it_f hR c1
    refine lv_iload_n hx hb dX11_isVan_4 rfl (lv_at hl 1 rfl) ?_
    refine lv_aload_n hx hb dX11_isVan_5 rfl (lv_at hl 0 rfl) ?_
    refine va_get (D := (dC, dI)) (ci := 9) (v := .ref (ad (b1 + 1))) (C := RX11) (T := TX11) (N := 14) hx hb hts hinX11 hown hK hP 0 rfl rfl 0 (by decide) hF7 (fun _ h9 => h9) rfl dX11_isVan_6 ?_
    refine lv_iconst (v := 3) hx hb dX11_isVan_9 ic_3 ?_
    refine va_iald hx hb hK hP 1 0 rfl rfl vi_3_206 dX11_isVan_10 ?_
    refine lv_icmp_ge (tgt := 18) hx hb dX11_isVan_11 (by decide) (fun c11 => ?_) (fun c11 => ?_)
    · replace hR := it_t hR c11
      refine lv_iconst (v := 0) hx hb dX11_isVan_18 ic_0 ?_
      replace hR := Option.some.inj hR
      have e9 := hR
      exact W.zret (ty := .boolean) hx hb hr (by decide) (fun t ht hW => ⟨⟨_, (), rfl, e9, by rw [ht]; exact hP, va_K.moved hW.alike hK, hD⟩, hS.F ht⟩) hS.2.2 dX11_isVan_19
    · replace hR := it_f hR c11
      refine lv_iconst (v := 1) hx hb dX11_isVan_14 ic_1 ?_
      refine lv_goto (tgt := 19) hx hb dX11_isVan_15 (by decide) ?_
      replace hR := Option.some.inj hR
      have e9 := hR
      exact W.zret (ty := .boolean) hx hb hr (by decide) (fun t ht hW => ⟨⟨_, (), rfl, e9, by rw [ht]; exact hP, va_K.moved hW.alike hK, hD⟩, hS.F ht⟩) hS.2.2 dX11_isVan_19
set_option maxHeartbeats 8000000 in
set_option maxRecDepth 100000 in
theorem k_X11_ofStation (l : Launch) (dC : Nat → ClassId) (dI : Nat → Nat → Nat) (cs : Nat → ClassId) (ad : Nat → Nat) (b1 : Nat) (sz : Nat) (S1 : T2) (p1 : Int32) (p2 : Int32) (r : Int32) (hR : fX11_ofStation S1 p1 p2 = some r) : Met l yX11_ofStation wsX11_ofStation ({ frames := 0, cells := 0, slots := 0, locals := 0 } : Room) (va_Pc [.ref (ad b1), .int p1, .int p2] (pW dC dI (tyL cs) (fl [(w_X11 ad (b1) cs S1)]) sz)) (QI dC dI (tyL cs) (va_A (fl [(w_X11 ad (b1) cs S1)]) sz) (fl [(w_X11 ad (b1) cs S1)]) r) 0 0 (va_A (fl [(w_X11 ad (b1) cs S1)]) sz) := by
  refine mt_of (own := RX11) (cc := cX11_ofStation) (maxL := 3) (ret := (some .int)) (Qc := fun A => QI dC dI (tyL cs) A (fl [(w_X11 ad (b1) cs S1)]) r) rfl (by decide) rfl (Nat.le_of_ble_eq_true rfl) (fun p e s m below meth c A ls hsz hx hb hr hts hown hlocks hml hA hK hP hD hS hl => ?_)
  subst hsz
  have hl : lv_has ls 3 [(0, .ref (ad b1)), (1, .int p1), (2, .int p2)] := hl
  have hF7 := hts (.fieldLink RX11 7 "DockedBikesModel" "s" "[I") (List.mem_of_getElem? (i := 1) rfl)
  have hinX11 : ∀ w ∈ wsX110, w ∈ wsX11_ofStation := by decide +kernel
  refine lv_aload_n hx hb dX11_ofStation_0 rfl (lv_at hl 0 rfl) ?_
  refine va_get (D := (dC, dI)) (ci := 9) (v := .ref (ad (b1 + 1))) (C := RX11) (T := TX11) (N := 14) hx hb hts hinX11 hown hK hP 0 rfl rfl 0 (by decide) hF7 (fun _ h9 => h9) rfl dX11_ofStation_1 ?_
  refine lv_bipush (v := 8) hx hb dX11_ofStation_4 bp_8 ?_
  refine lv_iconst (v := 4) hx hb dX11_ofStation_6 ic_4 ?_
  refine lv_iload_n hx hb dX11_ofStation_7 rfl (lv_at hl 1 rfl) ?_
  refine lv_imul hx hb dX11_ofStation_8 ?_
  refine lv_iadd hx hb dX11_ofStation_9 ?_
  refine lv_iload_n hx hb dX11_ofStation_10 rfl (lv_at hl 2 rfl) ?_
  refine lv_iadd hx hb dX11_ofStation_11 ?_
  replace hR := gi_e hR
  obtain ⟨i12, hR⟩ := hR
  refine va_iald hx hb hK hP 1 0 rfl rfl i12 dX11_ofStation_12 ?_
  replace hR := Option.some.inj hR
  have e9 := hR
  exact W.iret hx hb hr (fun t ht hW => ⟨⟨_, (), rfl, e9, by rw [ht]; exact hP, va_K.moved hW.alike hK, hD⟩, hS.F ht⟩) hS.2.2 dX11_ofStation_13
set_option maxHeartbeats 8000000 in
set_option maxRecDepth 100000 in
theorem k_X11_ofBicycle (l : Launch) (dC : Nat → ClassId) (dI : Nat → Nat → Nat) (cs : Nat → ClassId) (ad : Nat → Nat) (b1 : Nat) (sz : Nat) (S1 : T2) (p1 : Int32) (p2 : Int32) (r : Int32) (hR : fX11_ofBicycle S1 p1 p2 = some r) : Met l yX11_ofBicycle wsX11_ofBicycle ({ frames := 0, cells := 0, slots := 0, locals := 0 } : Room) (va_Pc [.ref (ad b1), .int p1, .int p2] (pW dC dI (tyL cs) (fl [(w_X11 ad (b1) cs S1)]) sz)) (QI dC dI (tyL cs) (va_A (fl [(w_X11 ad (b1) cs S1)]) sz) (fl [(w_X11 ad (b1) cs S1)]) r) 0 0 (va_A (fl [(w_X11 ad (b1) cs S1)]) sz) := by
  refine mt_of (own := RX11) (cc := cX11_ofBicycle) (maxL := 3) (ret := (some .int)) (Qc := fun A => QI dC dI (tyL cs) A (fl [(w_X11 ad (b1) cs S1)]) r) rfl (by decide) rfl (Nat.le_of_ble_eq_true rfl) (fun p e s m below meth c A ls hsz hx hb hr hts hown hlocks hml hA hK hP hD hS hl => ?_)
  subst hsz
  have hl : lv_has ls 3 [(0, .ref (ad b1)), (1, .int p1), (2, .int p2)] := hl
  have hF7 := hts (.fieldLink RX11 7 "DockedBikesModel" "s" "[I") (List.mem_of_getElem? (i := 1) rfl)
  have hinX11 : ∀ w ∈ wsX110, w ∈ wsX11_ofBicycle := by decide +kernel
  refine lv_aload_n hx hb dX11_ofBicycle_0 rfl (lv_at hl 0 rfl) ?_
  refine va_get (D := (dC, dI)) (ci := 9) (v := .ref (ad (b1 + 1))) (C := RX11) (T := TX11) (N := 14) hx hb hts hinX11 hown hK hP 0 rfl rfl 0 (by decide) hF7 (fun _ h9 => h9) rfl dX11_ofBicycle_1 ?_
  refine lv_bipush (v := 32) hx hb dX11_ofBicycle_4 bp_32 ?_
  refine lv_bipush (v := 6) hx hb dX11_ofBicycle_6 bp_6 ?_
  refine lv_iload_n hx hb dX11_ofBicycle_8 rfl (lv_at hl 1 rfl) ?_
  refine lv_imul hx hb dX11_ofBicycle_9 ?_
  refine lv_iadd hx hb dX11_ofBicycle_10 ?_
  refine lv_iload_n hx hb dX11_ofBicycle_11 rfl (lv_at hl 2 rfl) ?_
  refine lv_iadd hx hb dX11_ofBicycle_12 ?_
  replace hR := gi_e hR
  obtain ⟨i13, hR⟩ := hR
  refine va_iald hx hb hK hP 1 0 rfl rfl i13 dX11_ofBicycle_13 ?_
  replace hR := Option.some.inj hR
  have e9 := hR
  exact W.iret hx hb hr (fun t ht hW => ⟨⟨_, (), rfl, e9, by rw [ht]; exact hP, va_K.moved hW.alike hK, hD⟩, hS.F ht⟩) hS.2.2 dX11_ofBicycle_14
set_option maxHeartbeats 8000000 in
set_option maxRecDepth 100000 in
theorem k_X11_ofRider (l : Launch) (dC : Nat → ClassId) (dI : Nat → Nat → Nat) (cs : Nat → ClassId) (ad : Nat → Nat) (b1 : Nat) (sz : Nat) (S1 : T2) (p1 : Int32) (p2 : Int32) (r : Int32) (hR : fX11_ofRider S1 p1 p2 = some r) : Met l yX11_ofRider wsX11_ofRider ({ frames := 0, cells := 0, slots := 0, locals := 0 } : Room) (va_Pc [.ref (ad b1), .int p1, .int p2] (pW dC dI (tyL cs) (fl [(w_X11 ad (b1) cs S1)]) sz)) (QI dC dI (tyL cs) (va_A (fl [(w_X11 ad (b1) cs S1)]) sz) (fl [(w_X11 ad (b1) cs S1)]) r) 0 0 (va_A (fl [(w_X11 ad (b1) cs S1)]) sz) := by
  refine mt_of (own := RX11) (cc := cX11_ofRider) (maxL := 3) (ret := (some .int)) (Qc := fun A => QI dC dI (tyL cs) A (fl [(w_X11 ad (b1) cs S1)]) r) rfl (by decide) rfl (Nat.le_of_ble_eq_true rfl) (fun p e s m below meth c A ls hsz hx hb hr hts hown hlocks hml hA hK hP hD hS hl => ?_)
  subst hsz
  have hl : lv_has ls 3 [(0, .ref (ad b1)), (1, .int p1), (2, .int p2)] := hl
  have hF7 := hts (.fieldLink RX11 7 "DockedBikesModel" "s" "[I") (List.mem_of_getElem? (i := 1) rfl)
  have hinX11 : ∀ w ∈ wsX110, w ∈ wsX11_ofRider := by decide +kernel
  refine lv_aload_n hx hb dX11_ofRider_0 rfl (lv_at hl 0 rfl) ?_
  refine va_get (D := (dC, dI)) (ci := 9) (v := .ref (ad (b1 + 1))) (C := RX11) (T := TX11) (N := 14) hx hb hts hinX11 hown hK hP 0 rfl rfl 0 (by decide) hF7 (fun _ h9 => h9) rfl dX11_ofRider_1 ?_
  refine lv_sipush (v := 128) hx hb dX11_ofRider_4 sp_128 ?_
  refine lv_bipush (v := 9) hx hb dX11_ofRider_7 bp_9 ?_
  refine lv_iload_n hx hb dX11_ofRider_9 rfl (lv_at hl 1 rfl) ?_
  refine lv_imul hx hb dX11_ofRider_10 ?_
  refine lv_iadd hx hb dX11_ofRider_11 ?_
  refine lv_iload_n hx hb dX11_ofRider_12 rfl (lv_at hl 2 rfl) ?_
  refine lv_iadd hx hb dX11_ofRider_13 ?_
  replace hR := gi_e hR
  obtain ⟨i14, hR⟩ := hR
  refine va_iald hx hb hK hP 1 0 rfl rfl i14 dX11_ofRider_14 ?_
  replace hR := Option.some.inj hR
  have e9 := hR
  exact W.iret hx hb hr (fun t ht hW => ⟨⟨_, (), rfl, e9, by rw [ht]; exact hP, va_K.moved hW.alike hK, hD⟩, hS.F ht⟩) hS.2.2 dX11_ofRider_15
set_option maxHeartbeats 8000000 in
set_option maxRecDepth 100000 in
theorem k_X11_ofVan (l : Launch) (dC : Nat → ClassId) (dI : Nat → Nat → Nat) (cs : Nat → ClassId) (ad : Nat → Nat) (b1 : Nat) (sz : Nat) (S1 : T2) (p1 : Int32) (p2 : Int32) (r : Int32) (hR : fX11_ofVan S1 p1 p2 = some r) : Met l yX11_ofVan wsX11_ofVan ({ frames := 0, cells := 0, slots := 0, locals := 0 } : Room) (va_Pc [.ref (ad b1), .int p1, .int p2] (pW dC dI (tyL cs) (fl [(w_X11 ad (b1) cs S1)]) sz)) (QI dC dI (tyL cs) (va_A (fl [(w_X11 ad (b1) cs S1)]) sz) (fl [(w_X11 ad (b1) cs S1)]) r) 0 0 (va_A (fl [(w_X11 ad (b1) cs S1)]) sz) := by
  refine mt_of (own := RX11) (cc := cX11_ofVan) (maxL := 3) (ret := (some .int)) (Qc := fun A => QI dC dI (tyL cs) A (fl [(w_X11 ad (b1) cs S1)]) r) rfl (by decide) rfl (Nat.le_of_ble_eq_true rfl) (fun p e s m below meth c A ls hsz hx hb hr hts hown hlocks hml hA hK hP hD hS hl => ?_)
  subst hsz
  have hl : lv_has ls 3 [(0, .ref (ad b1)), (1, .int p1), (2, .int p2)] := hl
  have hF7 := hts (.fieldLink RX11 7 "DockedBikesModel" "s" "[I") (List.mem_of_getElem? (i := 1) rfl)
  have hinX11 : ∀ w ∈ wsX110, w ∈ wsX11_ofVan := by decide +kernel
  refine lv_aload_n hx hb dX11_ofVan_0 rfl (lv_at hl 0 rfl) ?_
  refine va_get (D := (dC, dI)) (ci := 9) (v := .ref (ad (b1 + 1))) (C := RX11) (T := TX11) (N := 14) hx hb hts hinX11 hown hK hP 0 rfl rfl 0 (by decide) hF7 (fun _ h9 => h9) rfl dX11_ofVan_1 ?_
  refine lv_sipush (v := 200) hx hb dX11_ofVan_4 sp_200 ?_
  refine lv_iconst (v := 3) hx hb dX11_ofVan_7 ic_3 ?_
  refine lv_iload_n hx hb dX11_ofVan_8 rfl (lv_at hl 1 rfl) ?_
  refine lv_imul hx hb dX11_ofVan_9 ?_
  refine lv_iadd hx hb dX11_ofVan_10 ?_
  refine lv_iload_n hx hb dX11_ofVan_11 rfl (lv_at hl 2 rfl) ?_
  refine lv_iadd hx hb dX11_ofVan_12 ?_
  replace hR := gi_e hR
  obtain ⟨i13, hR⟩ := hR
  refine va_iald hx hb hK hP 1 0 rfl rfl i13 dX11_ofVan_13 ?_
  replace hR := Option.some.inj hR
  have e9 := hR
  exact W.iret hx hb hr (fun t ht hW => ⟨⟨_, (), rfl, e9, by rw [ht]; exact hP, va_K.moved hW.alike hK, hD⟩, hS.F ht⟩) hS.2.2 dX11_ofVan_14
set_option maxHeartbeats 8000000 in
set_option maxRecDepth 100000 in
theorem k_X11_puts (l : Launch) (dC : Nat → ClassId) (dI : Nat → Nat → Nat) (cs : Nat → ClassId) (ad : Nat → Nat) (b1 : Nat) (sz : Nat) (S1 : T2) (p1 : Int32) (p2 : Int32) (p3 : Int32) (u1 : T2) (hR : fX11_puts S1 p1 p2 p3 = some u1) : Met l yX11_puts wsX11_puts ({ frames := 0, cells := 0, slots := 0, locals := 0 } : Room) (va_Pc [.ref (ad b1), .int p1, .int p2, .int p3] (pW dC dI (tyL cs) (fl [(w_X11 ad (b1) cs S1)]) sz)) (QV dC dI (tyL cs) (va_A (fl [(w_X11 ad (b1) cs S1)]) sz) (fl [(w_X11 ad (b1) cs u1)])) 0 0 (va_A (fl [(w_X11 ad (b1) cs S1)]) sz) := by
  refine mt_of (own := RX11) (cc := cX11_puts) (maxL := 4) (ret := none) (Qc := fun A => QV dC dI (tyL cs) A (fl [(w_X11 ad (b1) cs u1)])) rfl (by decide) rfl (Nat.le_of_ble_eq_true rfl) (fun p e s m below meth c A ls hsz hx hb hr hts hown hlocks hml hA hK hP hD hS hl => ?_)
  subst hsz
  have hl : lv_has ls 4 [(0, .ref (ad b1)), (1, .int p1), (2, .int p2), (3, .int p3)] := hl
  have hF7 := hts (.fieldLink RX11 7 "DockedBikesModel" "s" "[I") (List.mem_of_getElem? (i := 1) rfl)
  have hinX11 : ∀ w ∈ wsX110, w ∈ wsX11_puts := by decide +kernel
  refine lv_aload_n hx hb dX11_puts_0 rfl (lv_at hl 0 rfl) ?_
  refine va_get (D := (dC, dI)) (ci := 9) (v := .ref (ad (b1 + 1))) (C := RX11) (T := TX11) (N := 14) hx hb hts hinX11 hown hK hP 0 rfl rfl 0 (by decide) hF7 (fun _ h9 => h9) rfl dX11_puts_1 ?_
  refine lv_bipush (v := 32) hx hb dX11_puts_4 bp_32 ?_
  refine lv_bipush (v := 6) hx hb dX11_puts_6 bp_6 ?_
  refine lv_iload_n hx hb dX11_puts_8 rfl (lv_at hl 1 rfl) ?_
  refine lv_imul hx hb dX11_puts_9 ?_
  refine lv_iadd hx hb dX11_puts_10 ?_
  refine lv_iconst (v := 0) hx hb dX11_puts_11 ic_0 ?_
  refine lv_iadd hx hb dX11_puts_12 ?_
  refine lv_iload_n hx hb dX11_puts_13 rfl (lv_at hl 2 rfl) ?_
  replace hR := gi_e hR
  obtain ⟨i14, hR⟩ := hR
  refine va_iast hx hb hK hP hD hS 1 0 rfl rfl i14 dX11_puts_14 (fun H14 locs14 hP' hD' hS' => ?_)
  replace hS := hS'
  have hP' : va_P (dC, dI) vwCl (fl [(w_X11 ad (b1) cs (sU S1 0 (sU (S1 0) (((32 : Int32) + ((6 : Int32) * p1)) + 0).toNatClampNeg p2)))]) H14 := hP'
  have hD' : va_D A (fl [(w_X11 ad (b1) cs (sU S1 0 (sU (S1 0) (((32 : Int32) + ((6 : Int32) * p1)) + 0).toNatClampNeg p2)))]) := hD'
  replace hR := bn_e hR
  obtain ⟨S1_14, eS1_14, hR⟩ := hR
  replace hP : va_P (dC, dI) vwCl (fl [(w_X11 ad (b1) cs S1_14)]) H14 := by rw [eS1_14]; exact hP'
  replace hD : va_D A (fl [(w_X11 ad (b1) cs S1_14)]) := by rw [eS1_14]; exact hD'
  clear hP' hD' hS'
  refine lv_aload_n hx hb dX11_puts_15 rfl (lv_at hl 0 rfl) ?_
  refine va_get (D := (dC, dI)) (ci := 9) (v := .ref (ad (b1 + 1))) (C := RX11) (T := TX11) (N := 14) hx hb hts hinX11 hown hK hP 0 rfl rfl 0 (by decide) hF7 (fun _ h9 => h9) rfl dX11_puts_16 ?_
  refine lv_bipush (v := 32) hx hb dX11_puts_19 bp_32 ?_
  refine lv_bipush (v := 6) hx hb dX11_puts_21 bp_6 ?_
  refine lv_iload_n hx hb dX11_puts_23 rfl (lv_at hl 1 rfl) ?_
  refine lv_imul hx hb dX11_puts_24 ?_
  refine lv_iadd hx hb dX11_puts_25 ?_
  refine lv_iconst (v := 1) hx hb dX11_puts_26 ic_1 ?_
  refine lv_iadd hx hb dX11_puts_27 ?_
  refine lv_iload_n hx hb dX11_puts_28 rfl (lv_at hl 3 rfl) ?_
  replace hR := gi_e hR
  obtain ⟨i29, hR⟩ := hR
  refine va_iast hx hb hK hP hD hS 1 0 rfl rfl i29 dX11_puts_29 (fun H29 locs29 hP' hD' hS' => ?_)
  replace hS := hS'
  have hP' : va_P (dC, dI) vwCl (fl [(w_X11 ad (b1) cs (sU S1_14 0 (sU (S1_14 0) (((32 : Int32) + ((6 : Int32) * p1)) + 1).toNatClampNeg p3)))]) H29 := hP'
  have hD' : va_D A (fl [(w_X11 ad (b1) cs (sU S1_14 0 (sU (S1_14 0) (((32 : Int32) + ((6 : Int32) * p1)) + 1).toNatClampNeg p3)))]) := hD'
  replace hR := bn_e hR
  obtain ⟨S1_29, eS1_29, hR⟩ := hR
  replace hP : va_P (dC, dI) vwCl (fl [(w_X11 ad (b1) cs S1_29)]) H29 := by rw [eS1_29]; exact hP'
  replace hD : va_D A (fl [(w_X11 ad (b1) cs S1_29)]) := by rw [eS1_29]; exact hD'
  clear hP' hD' hS'
  replace hR := Option.some.inj hR
  have eu1 := hR
  replace hP : va_P (dC, dI) vwCl (fl [(w_X11 ad (b1) cs u1)]) H29 := by rw [← eu1]; exact hP
  replace hD : va_D A (fl [(w_X11 ad (b1) cs u1)]) := by rw [← eu1]; exact hD
  exact W.vret hx hb hr (fun t ht hW => ⟨⟨(), rfl, trivial, by rw [ht]; exact hP, va_K.moved hW.alike hK, hD⟩, hS.F ht⟩) hS.2.2 dX11_puts_30
set_option maxHeartbeats 8000000 in
set_option maxRecDepth 100000 in
theorem k_X11_those (l : Launch) (dC : Nat → ClassId) (dI : Nat → Nat → Nat) (cs : Nat → ClassId) (ad : Nat → Nat) (b1 : Nat) (sz : Nat) (S1 : T2) (p1 : Int32) (p2 : Int32) (r : Int32) (hR : fX11_those S1 p1 p2 = some r) : Met l yX11_those wsX11_those ({ frames := 1, cells := 0, slots := 0, locals := 22 } : Room) (va_Pc [.ref (ad b1), .int p1, .int p2] (pW dC dI (tyL cs) (fl [(w_X11 ad (b1) cs S1)]) sz)) (QI dC dI (tyL cs) (va_A (fl [(w_X11 ad (b1) cs S1)]) sz) (fl [(w_X11 ad (b1) cs S1)]) r) 0 0 (va_A (fl [(w_X11 ad (b1) cs S1)]) sz) := by
  refine mt_of (own := RX11) (cc := cX11_those) (maxL := 5) (ret := (some .int)) (Qc := fun A => QI dC dI (tyL cs) A (fl [(w_X11 ad (b1) cs S1)]) r) rfl (by decide) rfl (Nat.le_of_ble_eq_true rfl) (fun p e s m below meth c A ls hsz hx hb hr hts hown hlocks hml hA hK hP hD hS hl => ?_)
  subst hsz
  have hl : lv_has ls 5 [(0, .ref (ad b1)), (1, .int p1), (2, .int p2)] := hl
  have hF7 := hts (.fieldLink RX11 7 "DockedBikesModel" "s" "[I") (List.mem_of_getElem? (i := 1) rfl)
  have hinX11 : ∀ w ∈ wsX110, w ∈ wsX11_those := by decide +kernel
  have hB5 : ∀ (n5 : Nat), ∀ (v3_5 : Int32) (v4_5 : Int32) (H : Heap) (locs : List Loc) (ls : Array Slot), fX11_those_5 S1 p1 p2 n5 v3_5 v4_5 = some r → va_P (dC, dI) vwCl (fl [(w_X11 ad (b1) cs S1)]) H → va_D A (fl [(w_X11 ad (b1) cs S1)]) → va_S A s.heap H locs → lv_has ls 5 [(0, .ref (ad b1)), (1, .int p1), (2, .int p2), (3, .int v3_5), (4, .int v4_5)] → W p l e (headSpec wsX11_those ({ frames := 1, cells := 0, slots := 0, locals := 22 } : Room)).room s m ([.ref (ad b1), .int p1, .int p2] : List Value).toArray below meth c H locs 0 0 (MQ below (QI dC dI (tyL cs) A (fl [(w_X11 ad (b1) cs S1)]) r) ([.ref (ad b1), .int p1, .int p2] : List Value).toArray s 0 0 A) (F0 m 5 ls []) := by
    intro n5
    induction n5 with
    | zero =>
      intro v3_5 v4_5 H locs ls hR hP hD hS hl
      exact nn_e hR
    | succ n5 hI5 =>
      have hB47 : ∀ (v4_47 : Int32) (t0_47 : Int32) (t1_47 : Int32) (H : Heap) (locs : List Loc) (ls : Array Slot), fX11_those_47 (fX11_those_5 S1 p1 p2 n5) S1 p1 p2 v4_47 t0_47 t1_47 = some r → va_P (dC, dI) vwCl (fl [(w_X11 ad (b1) cs S1)]) H → va_D A (fl [(w_X11 ad (b1) cs S1)]) → va_S A s.heap H locs → lv_has ls 5 [(0, .ref (ad b1)), (1, .int p1), (2, .int p2), (4, .int v4_47)] → W p l e (headSpec wsX11_those ({ frames := 1, cells := 0, slots := 0, locals := 22 } : Room)).room s m ([.ref (ad b1), .int p1, .int p2] : List Value).toArray below meth c H locs 0 0 (MQ below (QI dC dI (tyL cs) A (fl [(w_X11 ad (b1) cs S1)]) r) ([.ref (ad b1), .int p1, .int p2] : List Value).toArray s 0 0 A) (F0 m 47 ls [.int t1_47, .int t0_47]) := by
        intro v4_47 t0_47 t1_47 H locs ls hR hP hD hS hl
        refine lv_ior hx hb dX11_those_47 ?_
        refine lv_istore_n (lv' := [(3, .int (t0_47 ||| t1_47)), (0, .ref (ad b1)), (1, .int p1), (2, .int p2), (4, .int v4_47)]) hx hb dX11_those_48 rfl hl (Nat.le_of_ble_eq_true rfl) rfl (fun ls hl => ?_)
        refine lv_iinc (v := (v4_47 + 1)) (lv' := [(4, .int (v4_47 + 1)), (3, .int (t0_47 ||| t1_47)), (0, .ref (ad b1)), (1, .int p1), (2, .int p2)]) hx hb dX11_those_49 hl (k := 4) rfl rfl (Nat.le_of_ble_eq_true rfl) rfl (fun ls hl => ?_)
        refine lv_goto (tgt := 5) hx hb dX11_those_52 (by decide) ?_
        exact hI5 (t0_47 ||| t1_47) (v4_47 + 1) H _ ls hR hP hD hS (lv_sub hl [2, 3, 4, 1, 0] rfl)
      have hB46 : ∀ (v4_46 : Int32) (t0_46 : Int32) (H : Heap) (locs : List Loc) (ls : Array Slot), fX11_those_46 (fX11_those_5 S1 p1 p2 n5) S1 p1 p2 v4_46 t0_46 = some r → va_P (dC, dI) vwCl (fl [(w_X11 ad (b1) cs S1)]) H → va_D A (fl [(w_X11 ad (b1) cs S1)]) → va_S A s.heap H locs → lv_has ls 5 [(0, .ref (ad b1)), (1, .int p1), (2, .int p2), (4, .int v4_46)] → W p l e (headSpec wsX11_those ({ frames := 1, cells := 0, slots := 0, locals := 22 } : Room)).room s m ([.ref (ad b1), .int p1, .int p2] : List Value).toArray below meth c H locs 0 0 (MQ below (QI dC dI (tyL cs) A (fl [(w_X11 ad (b1) cs S1)]) r) ([.ref (ad b1), .int p1, .int p2] : List Value).toArray s 0 0 A) (F0 m 46 ls [.int t0_46]) := by
        intro v4_46 t0_46 H locs ls hR hP hD hS hl
        refine lv_iconst (v := 0) hx hb dX11_those_46 ic_0 ?_
        exact hB47 v4_46 t0_46 (0 : Int32) H _ ls hR hP hD hS (lv_sub hl [0, 1, 2, 3] rfl)
      intro v3_5 v4_5 H locs ls hR hP hD hS hl
      rw [fX11_those_5] at hR
      refine lv_iload hx hb dX11_those_5 (lv_at hl 4 rfl) ?_
      refine lv_aload_n hx hb dX11_those_7 rfl (lv_at hl 0 rfl) ?_
      refine va_get (D := (dC, dI)) (ci := 9) (v := .ref (ad (b1 + 1))) (C := RX11) (T := TX11) (N := 14) hx hb hts hinX11 hown hK hP 0 rfl rfl 0 (by decide) hF7 (fun _ h9 => h9) rfl dX11_those_8 ?_
      refine lv_iconst (v := 1) hx hb dX11_those_11 ic_1 ?_
      refine va_iald hx hb hK hP 1 0 rfl rfl vi_1_206 dX11_those_12 ?_
      refine lv_icmp_ge (tgt := 55) hx hb dX11_those_13 (by decide) (fun c13 => ?_) (fun c13 => ?_)
      · replace hR := it_t hR c13
        refine lv_iload_n hx hb dX11_those_55 rfl (lv_at hl 3 rfl) ?_
        replace hR := Option.some.inj hR
        have e9 := hR
        exact W.iret hx hb hr (fun t ht hW => ⟨⟨_, (), rfl, e9, by rw [ht]; exact hP, va_K.moved hW.alike hK, hD⟩, hS.F ht⟩) hS.2.2 dX11_those_56
      · replace hR := it_f hR c13
        refine lv_iload_n hx hb dX11_those_16 rfl (lv_at hl 3 rfl) ?_
        refine lv_aload_n hx hb dX11_those_17 rfl (lv_at hl 0 rfl) ?_
        refine lv_iload hx hb dX11_those_18 (lv_at hl 4 rfl) ?_
        refine lv_iconst (v := 0) hx hb dX11_those_20 ic_0 ?_
        replace hR := bd_e hR
        obtain ⟨q21, gq21, hR⟩ := hR
        refine cl_Vi (As := [.int v4_5, .int (0 : Int32)]) (rest := [.int v3_5]) (L := [(w_X11 ad (b1) cs S1)]) (L' := [(w_X11 ad (b1) cs S1)]) (Wc := [(w_X11 ad (b1) cs S1)]) (Wc' := [(w_X11 ad (b1) cs S1)]) (is := [0]) (js := []) ⟨hx, hb, hml, hown, hts⟩ (k_X11_ofBicycle l dC dI cs ad (b1) H.size S1 v4_5 (0 : Int32) q21 gq21) (cwV 2 hts gX11_those_X11_ofBicycle rfl rfl rfl cd_X11_ofBicycle ⟨Nat.le_of_ble_eq_true rfl, Nat.le_of_ble_eq_true rfl⟩) hK hP hD hS hA ⟨rfl, rfl, rfl, rfl, rfl, rfl⟩ (jn_nd (is := [0]) hD rfl rfl) 0 9 rfl rfl rfl rfl rfl hl.1 (Nat.le_of_ble_eq_true rfl) dX11_those_21 (fun H21 locs21 hP' hD' hS' => ?_)
        replace hS := hS'
        replace hP : va_P (dC, dI) vwCl (fl [(w_X11 ad (b1) cs S1)]) H21 := hP'
        replace hD : va_D A (fl [(w_X11 ad (b1) cs S1)]) := hD'
        clear hP' hD' hS'
        refine lv_iload_n hx hb dX11_those_24 rfl (lv_at hl 1 rfl) ?_
        refine lv_icmp_ne (tgt := 46) hx hb dX11_those_25 (by decide) (fun c25 => ?_) (fun c25 => ?_)
        · replace hR := it_f hR c25
          exact hB46 v4_5 v3_5 H21 _ ls hR hP hD hS (lv_sub hl [0, 1, 2, 4] rfl)
        · replace hR := it_t hR c25
          refine lv_aload_n hx hb dX11_those_28 rfl (lv_at hl 0 rfl) ?_
          refine lv_iload hx hb dX11_those_29 (lv_at hl 4 rfl) ?_
          refine lv_iconst (v := 1) hx hb dX11_those_31 ic_1 ?_
          replace hR := bd_e hR
          obtain ⟨q32, gq32, hR⟩ := hR
          refine cl_Vi (As := [.int v4_5, .int (1 : Int32)]) (rest := [.int v3_5]) (L := [(w_X11 ad (b1) cs S1)]) (L' := [(w_X11 ad (b1) cs S1)]) (Wc := [(w_X11 ad (b1) cs S1)]) (Wc' := [(w_X11 ad (b1) cs S1)]) (is := [0]) (js := []) ⟨hx, hb, hml, hown, hts⟩ (k_X11_ofBicycle l dC dI cs ad (b1) H21.size S1 v4_5 (1 : Int32) q32 gq32) (cwV 2 hts gX11_those_X11_ofBicycle rfl rfl rfl cd_X11_ofBicycle ⟨Nat.le_of_ble_eq_true rfl, Nat.le_of_ble_eq_true rfl⟩) hK hP hD hS hA ⟨rfl, rfl, rfl, rfl, rfl, rfl⟩ (jn_nd (is := [0]) hD rfl rfl) 0 9 rfl rfl rfl rfl rfl hl.1 (Nat.le_of_ble_eq_true rfl) dX11_those_32 (fun H32 locs32 hP' hD' hS' => ?_)
          replace hS := hS'
          replace hP : va_P (dC, dI) vwCl (fl [(w_X11 ad (b1) cs S1)]) H32 := hP'
          replace hD : va_D A (fl [(w_X11 ad (b1) cs S1)]) := hD'
          clear hP' hD' hS'
          refine lv_iload_n hx hb dX11_those_35 rfl (lv_at hl 2 rfl) ?_
          refine lv_icmp_ne (tgt := 46) hx hb dX11_those_36 (by decide) (fun c36 => ?_) (fun c36 => ?_)
          · replace hR := it_f hR c36
            exact hB46 v4_5 v3_5 H32 _ ls hR hP hD hS (lv_sub hl [0, 1, 2, 4] rfl)
          · replace hR := it_t hR c36
            refine lv_iconst (v := 1) hx hb dX11_those_39 ic_1 ?_
            refine lv_iload hx hb dX11_those_40 (lv_at hl 4 rfl) ?_
            refine lv_ishl hx hb dX11_those_42 ?_
            refine lv_goto (tgt := 47) hx hb dX11_those_43 (by decide) ?_
            exact hB47 v4_5 v3_5 ((1 : Int32) <<< (v4_5 &&& 31)) H32 _ ls hR hP hD hS (lv_sub hl [0, 1, 2, 4] rfl)
  refine lv_iconst (v := 0) hx hb dX11_those_0 ic_0 ?_
  refine lv_istore_n (lv' := [(3, .int (0 : Int32)), (0, .ref (ad b1)), (1, .int p1), (2, .int p2)]) hx hb dX11_those_1 rfl hl (Nat.le_of_ble_eq_true rfl) rfl (fun ls hl => ?_)
  refine lv_iconst (v := 0) hx hb dX11_those_2 ic_0 ?_
  refine lv_istore (lv' := [(4, .int (0 : Int32)), (3, .int (0 : Int32)), (0, .ref (ad b1)), (1, .int p1), (2, .int p2)]) hx hb dX11_those_3 hl (Nat.le_of_ble_eq_true rfl) rfl (fun ls hl => ?_)
  exact hB5 fuel (0 : Int32) (0 : Int32) s.heap _ ls hR hP hD hS (lv_sub hl [2, 3, 4, 1, 0] rfl)
set_option maxHeartbeats 8000000 in
set_option maxRecDepth 100000 in
theorem k_X11_ones (l : Launch) (dC : Nat → ClassId) (dI : Nat → Nat → Nat) (cs : Nat → ClassId) (ad : Nat → Nat) (sz : Nat) (p0 : Int32) (r : Int32) (hR : fX11_ones p0 = some r) : Met l yX11_ones wsX11_ones ({ frames := 0, cells := 0, slots := 0, locals := 0 } : Room) (va_Pc [.int p0] (pW dC dI (tyL cs) (fl []) sz)) (QI dC dI (tyL cs) (va_A (fl []) sz) (fl []) r) 0 0 (va_A (fl []) sz) := by
  refine mt_of (own := RX11) (cc := cX11_ones) (maxL := 3) (ret := (some .int)) (Qc := fun A => QI dC dI (tyL cs) A (fl []) r) rfl (by decide) rfl (Nat.le_of_ble_eq_true rfl) (fun p e s m below meth c A ls hsz hx hb hr hts hown hlocks hml hA hK hP hD hS hl => ?_)
  subst hsz
  have hl : lv_has ls 3 [(0, .int p0)] := hl
  have hB4 : ∀ (n4 : Nat), ∀ (v1_4 : Int32) (v2_4 : Int32) (H : Heap) (locs : List Loc) (ls : Array Slot), fX11_ones_4 p0 n4 v1_4 v2_4 = some r → va_P (dC, dI) vwCl (fl []) H → va_D A (fl []) → va_S A s.heap H locs → lv_has ls 3 [(0, .int p0), (1, .int v1_4), (2, .int v2_4)] → W p l e (headSpec wsX11_ones ({ frames := 0, cells := 0, slots := 0, locals := 0 } : Room)).room s m ([.int p0] : List Value).toArray below meth c H locs 0 0 (MQ below (QI dC dI (tyL cs) A (fl []) r) ([.int p0] : List Value).toArray s 0 0 A) (F0 m 4 ls []) := by
    intro n4
    induction n4 with
    | zero =>
      intro v1_4 v2_4 H locs ls hR hP hD hS hl
      exact nn_e hR
    | succ n4 hI4 =>
      intro v1_4 v2_4 H locs ls hR hP hD hS hl
      rw [fX11_ones_4] at hR
      refine lv_iload_n hx hb dX11_ones_4 rfl (lv_at hl 2 rfl) ?_
      refine lv_bipush (v := 16) hx hb dX11_ones_5 bp_16 ?_
      refine lv_icmp_ge (tgt := 24) hx hb dX11_ones_7 (by decide) (fun c7 => ?_) (fun c7 => ?_)
      · replace hR := it_t hR c7
        refine lv_iload_n hx hb dX11_ones_24 rfl (lv_at hl 1 rfl) ?_
        replace hR := Option.some.inj hR
        have e9 := hR
        exact W.iret hx hb hr (fun t ht hW => ⟨⟨_, (), rfl, e9, by rw [ht]; exact hP, va_K.moved hW.alike hK, hD⟩, hS.F ht⟩) hS.2.2 dX11_ones_25
      · replace hR := it_f hR c7
        refine lv_iload_n hx hb dX11_ones_10 rfl (lv_at hl 1 rfl) ?_
        refine lv_iload_n hx hb dX11_ones_11 rfl (lv_at hl 0 rfl) ?_
        refine lv_iload_n hx hb dX11_ones_12 rfl (lv_at hl 2 rfl) ?_
        refine lv_ishr hx hb dX11_ones_13 ?_
        refine lv_iconst (v := 1) hx hb dX11_ones_14 ic_1 ?_
        refine lv_iand hx hb dX11_ones_15 ?_
        refine lv_iadd hx hb dX11_ones_16 ?_
        refine lv_istore_n (lv' := [(1, .int (v1_4 + ((p0 >>> (v2_4 &&& 31)) &&& 1))), (0, .int p0), (2, .int v2_4)]) hx hb dX11_ones_17 rfl hl (Nat.le_of_ble_eq_true rfl) rfl (fun ls hl => ?_)
        refine lv_iinc (v := (v2_4 + 1)) (lv' := [(2, .int (v2_4 + 1)), (1, .int (v1_4 + ((p0 >>> (v2_4 &&& 31)) &&& 1))), (0, .int p0)]) hx hb dX11_ones_18 hl (k := 2) rfl rfl (Nat.le_of_ble_eq_true rfl) rfl (fun ls hl => ?_)
        refine lv_goto (tgt := 4) hx hb dX11_ones_21 (by decide) ?_
        exact hI4 (v1_4 + ((p0 >>> (v2_4 &&& 31)) &&& 1)) (v2_4 + 1) H _ ls hR hP hD hS (lv_sub hl [2, 1, 0] rfl)
  refine lv_iconst (v := 0) hx hb dX11_ones_0 ic_0 ?_
  refine lv_istore_n (lv' := [(1, .int (0 : Int32)), (0, .int p0)]) hx hb dX11_ones_1 rfl hl (Nat.le_of_ble_eq_true rfl) rfl (fun ls hl => ?_)
  refine lv_iconst (v := 0) hx hb dX11_ones_2 ic_0 ?_
  refine lv_istore_n (lv' := [(2, .int (0 : Int32)), (1, .int (0 : Int32)), (0, .int p0)]) hx hb dX11_ones_3 rfl hl (Nat.le_of_ble_eq_true rfl) rfl (fun ls hl => ?_)
  exact hB4 fuel (0 : Int32) (0 : Int32) s.heap _ ls hR hP hD hS (lv_sub hl [2, 1, 0] rfl)
set_option maxHeartbeats 8000000 in
set_option maxRecDepth 100000 in
theorem k_X11_docked (l : Launch) (dC : Nat → ClassId) (dI : Nat → Nat → Nat) (cs : Nat → ClassId) (ad : Nat → Nat) (b1 : Nat) (sz : Nat) (S1 : T2) (p1 : Int32) (r : Int32) (hR : fX11_docked S1 p1 = some r) : Met l yX11_docked wsX11_docked ({ frames := 2, cells := 0, slots := 0, locals := 46 } : Room) (va_Pc [.ref (ad b1), .int p1] (pW dC dI (tyL cs) (fl [(w_X11 ad (b1) cs S1)]) sz)) (QI dC dI (tyL cs) (va_A (fl [(w_X11 ad (b1) cs S1)]) sz) (fl [(w_X11 ad (b1) cs S1)]) r) 0 0 (va_A (fl [(w_X11 ad (b1) cs S1)]) sz) := by
  refine mt_of (own := RX11) (cc := cX11_docked) (maxL := 2) (ret := (some .int)) (Qc := fun A => QI dC dI (tyL cs) A (fl [(w_X11 ad (b1) cs S1)]) r) rfl (by decide) rfl (Nat.le_of_ble_eq_true rfl) (fun p e s m below meth c A ls hsz hx hb hr hts hown hlocks hml hA hK hP hD hS hl => ?_)
  subst hsz
  have hl : lv_has ls 2 [(0, .ref (ad b1)), (1, .int p1)] := hl
  refine lv_aload_n hx hb dX11_docked_0 rfl (lv_at hl 0 rfl) ?_
  refine lv_iconst (v := 0) hx hb dX11_docked_1 ic_0 ?_
  refine lv_iload_n hx hb dX11_docked_2 rfl (lv_at hl 1 rfl) ?_
  replace hR := bd_e hR
  obtain ⟨q3, gq3, hR⟩ := hR
  refine cl_Vi (As := [.int (0 : Int32), .int p1]) (rest := []) (L := [(w_X11 ad (b1) cs S1)]) (L' := [(w_X11 ad (b1) cs S1)]) (Wc := [(w_X11 ad (b1) cs S1)]) (Wc' := [(w_X11 ad (b1) cs S1)]) (is := [0]) (js := []) ⟨hx, hb, hml, hown, hts⟩ (k_X11_those l dC dI cs ad (b1) s.heap.size S1 (0 : Int32) p1 q3 gq3) (cwV 2 hts gX11_docked_X11_those rfl rfl rfl cd_X11_those ⟨Nat.le_of_ble_eq_true rfl, Nat.le_of_ble_eq_true rfl⟩) hK hP hD hS hA ⟨rfl, rfl, rfl, rfl, rfl, rfl⟩ (jn_nd (is := [0]) hD rfl rfl) 0 9 rfl rfl rfl rfl rfl hl.1 (Nat.le_of_ble_eq_true rfl) dX11_docked_3 (fun H3 locs3 hP' hD' hS' => ?_)
  replace hS := hS'
  replace hP : va_P (dC, dI) vwCl (fl [(w_X11 ad (b1) cs S1)]) H3 := hP'
  replace hD : va_D A (fl [(w_X11 ad (b1) cs S1)]) := hD'
  clear hP' hD' hS'
  replace hR := bd_e hR
  obtain ⟨q6, gq6, hR⟩ := hR
  refine cl_Si (As := [.int q3]) (rest := []) (L := [(w_X11 ad (b1) cs S1)]) (L' := [(w_X11 ad (b1) cs S1)]) (Wc := []) (Wc' := []) (is := []) (js := [0]) ⟨hx, hb, hml, hown, hts⟩ (k_X11_ones l dC dI cs ad H3.size q3 q6 gq6) (cwS 1 hts gX11_docked_X11_ones rfl rfl rfl cd_X11_ones ⟨Nat.le_of_ble_eq_true rfl, Nat.le_of_ble_eq_true rfl⟩) hK hP hD hS hA ⟨rfl, rfl, rfl, rfl, rfl, rfl⟩ (jn_nd (is := []) hD rfl rfl) rfl rfl hl.1 (Nat.le_of_ble_eq_true rfl) dX11_docked_6 (fun H6 locs6 hP' hD' hS' => ?_)
  replace hS := hS'
  replace hP : va_P (dC, dI) vwCl (fl [(w_X11 ad (b1) cs S1)]) H6 := hP'
  replace hD : va_D A (fl [(w_X11 ad (b1) cs S1)]) := hD'
  clear hP' hD' hS'
  replace hR := Option.some.inj hR
  have e9 := hR
  exact W.iret hx hb hr (fun t ht hW => ⟨⟨_, (), rfl, e9, by rw [ht]; exact hP, va_K.moved hW.alike hK, hD⟩, hS.F ht⟩) hS.2.2 dX11_docked_9
set_option maxHeartbeats 8000000 in
set_option maxRecDepth 100000 in
theorem k_X11_isFree (l : Launch) (dC : Nat → ClassId) (dI : Nat → Nat → Nat) (cs : Nat → ClassId) (ad : Nat → Nat) (b1 : Nat) (sz : Nat) (S1 : T2) (p1 : Int32) (r : Int32) (hR : fX11_isFree S1 p1 = some r) : Met l yX11_isFree wsX11_isFree ({ frames := 3, cells := 0, slots := 0, locals := 67 } : Room) (va_Pc [.ref (ad b1), .int p1] (pW dC dI (tyL cs) (fl [(w_X11 ad (b1) cs S1)]) sz)) (QI dC dI (tyL cs) (va_A (fl [(w_X11 ad (b1) cs S1)]) sz) (fl [(w_X11 ad (b1) cs S1)]) r) 0 0 (va_A (fl [(w_X11 ad (b1) cs S1)]) sz) := by
  refine mt_of (own := RX11) (cc := cX11_isFree) (maxL := 2) (ret := (some .boolean)) (Qc := fun A => QI dC dI (tyL cs) A (fl [(w_X11 ad (b1) cs S1)]) r) rfl (by decide) rfl (Nat.le_of_ble_eq_true rfl) (fun p e s m below meth c A ls hsz hx hb hr hts hown hlocks hml hA hK hP hD hS hl => ?_)
  subst hsz
  have hl : lv_has ls 2 [(0, .ref (ad b1)), (1, .int p1)] := hl
  refine lv_aload_n hx hb dX11_isFree_0 rfl (lv_at hl 0 rfl) ?_
  refine lv_iload_n hx hb dX11_isFree_1 rfl (lv_at hl 1 rfl) ?_
  replace hR := bd_e hR
  obtain ⟨q2, gq2, hR⟩ := hR
  refine cl_Vi (As := [.int p1]) (rest := []) (L := [(w_X11 ad (b1) cs S1)]) (L' := [(w_X11 ad (b1) cs S1)]) (Wc := [(w_X11 ad (b1) cs S1)]) (Wc' := [(w_X11 ad (b1) cs S1)]) (is := [0]) (js := []) ⟨hx, hb, hml, hown, hts⟩ (k_X11_docked l dC dI cs ad (b1) s.heap.size S1 p1 q2 gq2) (cwV 1 hts gX11_isFree_X11_docked rfl rfl rfl cd_X11_docked ⟨Nat.le_of_ble_eq_true rfl, Nat.le_of_ble_eq_true rfl⟩) hK hP hD hS hA ⟨rfl, rfl, rfl, rfl, rfl, rfl⟩ (jn_nd (is := [0]) hD rfl rfl) 0 9 rfl rfl rfl rfl rfl hl.1 (Nat.le_of_ble_eq_true rfl) dX11_isFree_2 (fun H2 locs2 hP' hD' hS' => ?_)
  replace hS := hS'
  replace hP : va_P (dC, dI) vwCl (fl [(w_X11 ad (b1) cs S1)]) H2 := hP'
  replace hD : va_D A (fl [(w_X11 ad (b1) cs S1)]) := hD'
  clear hP' hD' hS'
  refine lv_aload_n hx hb dX11_isFree_5 rfl (lv_at hl 0 rfl) ?_
  refine lv_iload_n hx hb dX11_isFree_6 rfl (lv_at hl 1 rfl) ?_
  refine lv_iconst (v := 1) hx hb dX11_isFree_7 ic_1 ?_
  replace hR := bd_e hR
  obtain ⟨q8, gq8, hR⟩ := hR
  refine cl_Vi (As := [.int p1, .int (1 : Int32)]) (rest := [.int q2]) (L := [(w_X11 ad (b1) cs S1)]) (L' := [(w_X11 ad (b1) cs S1)]) (Wc := [(w_X11 ad (b1) cs S1)]) (Wc' := [(w_X11 ad (b1) cs S1)]) (is := [0]) (js := []) ⟨hx, hb, hml, hown, hts⟩ (k_X11_ofStation l dC dI cs ad (b1) H2.size S1 p1 (1 : Int32) q8 gq8) (cwV 2 hts gX11_isFree_X11_ofStation rfl rfl rfl cd_X11_ofStation ⟨Nat.le_of_ble_eq_true rfl, Nat.le_of_ble_eq_true rfl⟩) hK hP hD hS hA ⟨rfl, rfl, rfl, rfl, rfl, rfl⟩ (jn_nd (is := [0]) hD rfl rfl) 0 9 rfl rfl rfl rfl rfl hl.1 (Nat.le_of_ble_eq_true rfl) dX11_isFree_8 (fun H8 locs8 hP' hD' hS' => ?_)
  replace hS := hS'
  replace hP : va_P (dC, dI) vwCl (fl [(w_X11 ad (b1) cs S1)]) H8 := hP'
  replace hD : va_D A (fl [(w_X11 ad (b1) cs S1)]) := hD'
  clear hP' hD' hS'
  refine lv_icmp_ge (tgt := 18) hx hb dX11_isFree_11 (by decide) (fun c11 => ?_) (fun c11 => ?_)
  · replace hR := it_t hR c11
    refine lv_iconst (v := 0) hx hb dX11_isFree_18 ic_0 ?_
    replace hR := Option.some.inj hR
    have e9 := hR
    exact W.zret (ty := .boolean) hx hb hr (by decide) (fun t ht hW => ⟨⟨_, (), rfl, e9, by rw [ht]; exact hP, va_K.moved hW.alike hK, hD⟩, hS.F ht⟩) hS.2.2 dX11_isFree_19
  · replace hR := it_f hR c11
    refine lv_iconst (v := 1) hx hb dX11_isFree_14 ic_1 ?_
    refine lv_goto (tgt := 19) hx hb dX11_isFree_15 (by decide) ?_
    replace hR := Option.some.inj hR
    have e9 := hR
    exact W.zret (ty := .boolean) hx hb hr (by decide) (fun t ht hW => ⟨⟨_, (), rfl, e9, by rw [ht]; exact hP, va_K.moved hW.alike hK, hD⟩, hS.F ht⟩) hS.2.2 dX11_isFree_19
set_option maxHeartbeats 8000000 in
set_option maxRecDepth 100000 in
theorem k_X11_station (l : Launch) (dC : Nat → ClassId) (dI : Nat → Nat → Nat) (cs : Nat → ClassId) (ad : Nat → Nat) (b1 : Nat) (sz : Nat) (S1 : T2) (p1 : Int32) (p2 : Int32) (r : Int32) (u1 : T2) (hR : fX11_station S1 p1 p2 = some (r, u1)) : Met l yX11_station wsX11_station ({ frames := 1, cells := 0, slots := 0, locals := 22 } : Room) (va_Pc [.ref (ad b1), .int p1, .int p2] (pW dC dI (tyL cs) (fl [(w_X11 ad (b1) cs S1)]) sz)) (QI dC dI (tyL cs) (va_A (fl [(w_X11 ad (b1) cs S1)]) sz) (fl [(w_X11 ad (b1) cs u1)]) r) 0 0 (va_A (fl [(w_X11 ad (b1) cs S1)]) sz) := by
  refine mt_of (own := RX11) (cc := cX11_station) (maxL := 4) (ret := (some .int)) (Qc := fun A => QI dC dI (tyL cs) A (fl [(w_X11 ad (b1) cs u1)]) r) rfl (by decide) rfl (Nat.le_of_ble_eq_true rfl) (fun p e s m below meth c A ls hsz hx hb hr hts hown hlocks hml hA hK hP hD hS hl => ?_)
  subst hsz
  have hl : lv_has ls 4 [(0, .ref (ad b1)), (1, .int p1), (2, .int p2)] := hl
  have hF7 := hts (.fieldLink RX11 7 "DockedBikesModel" "s" "[I") (List.mem_of_getElem? (i := 1) rfl)
  have hinX11 : ∀ w ∈ wsX110, w ∈ wsX11_station := by decide +kernel
  refine lv_iload_n hx hb dX11_station_0 rfl (lv_at hl 1 rfl) ?_
  refine lv_iconst (v := 0) hx hb dX11_station_1 ic_0 ?_
  refine lv_bipush (v := 99) hx hb dX11_station_2 bp_99 ?_
  replace hR := bd_e hR
  obtain ⟨q4, gq4, hR⟩ := hR
  refine cl_Si (As := [.int p1, .int (0 : Int32), .int (99 : Int32)]) (rest := []) (L := [(w_X11 ad (b1) cs S1)]) (L' := [(w_X11 ad (b1) cs S1)]) (Wc := []) (Wc' := []) (is := []) (js := [0]) ⟨hx, hb, hml, hown, hts⟩ (k_X11_in l dC dI cs ad s.heap.size p1 (0 : Int32) (99 : Int32) q4 gq4) (cwS 3 hts gX11_station_X11_in rfl rfl rfl cd_X11_in ⟨Nat.le_of_ble_eq_true rfl, Nat.le_of_ble_eq_true rfl⟩) hK hP hD hS hA ⟨rfl, rfl, rfl, rfl, rfl, rfl⟩ (jn_nd (is := []) hD rfl rfl) rfl rfl hl.1 (Nat.le_of_ble_eq_true rfl) dX11_station_4 (fun H4 locs4 hP' hD' hS' => ?_)
  replace hS := hS'
  replace hP : va_P (dC, dI) vwCl (fl [(w_X11 ad (b1) cs S1)]) H4 := hP'
  replace hD : va_D A (fl [(w_X11 ad (b1) cs S1)]) := hD'
  clear hP' hD' hS'
  refine lv_if_eq (tgt := 20) hx hb dX11_station_7 (by decide) (fun c7 => ?_) (fun c7 => ?_)
  · replace hR := it_t hR c7
    refine lv_iconst (v := (-1)) hx hb dX11_station_20 ic_m1 ?_
    replace hR := Option.some.inj hR
    obtain ⟨e9, hR⟩ := Prod.mk.inj hR
    have eu1 := hR
    replace hP : va_P (dC, dI) vwCl (fl [(w_X11 ad (b1) cs u1)]) H4 := by rw [← eu1]; exact hP
    replace hD : va_D A (fl [(w_X11 ad (b1) cs u1)]) := by rw [← eu1]; exact hD
    exact W.iret hx hb hr (fun t ht hW => ⟨⟨_, (), rfl, e9, by rw [ht]; exact hP, va_K.moved hW.alike hK, hD⟩, hS.F ht⟩) hS.2.2 dX11_station_21
  · replace hR := it_f hR c7
    refine lv_iload_n hx hb dX11_station_10 rfl (lv_at hl 2 rfl) ?_
    refine lv_iconst (v := 1) hx hb dX11_station_11 ic_1 ?_
    refine lv_bipush (v := 8) hx hb dX11_station_12 bp_8 ?_
    replace hR := bd_e hR
    obtain ⟨q14, gq14, hR⟩ := hR
    refine cl_Si (As := [.int p2, .int (1 : Int32), .int (8 : Int32)]) (rest := []) (L := [(w_X11 ad (b1) cs S1)]) (L' := [(w_X11 ad (b1) cs S1)]) (Wc := []) (Wc' := []) (is := []) (js := [0]) ⟨hx, hb, hml, hown, hts⟩ (k_X11_in l dC dI cs ad H4.size p2 (1 : Int32) (8 : Int32) q14 gq14) (cwS 3 hts gX11_station_X11_in rfl rfl rfl cd_X11_in ⟨Nat.le_of_ble_eq_true rfl, Nat.le_of_ble_eq_true rfl⟩) hK hP hD hS hA ⟨rfl, rfl, rfl, rfl, rfl, rfl⟩ (jn_nd (is := []) hD rfl rfl) rfl rfl hl.1 (Nat.le_of_ble_eq_true rfl) dX11_station_14 (fun H14 locs14 hP' hD' hS' => ?_)
    replace hS := hS'
    replace hP : va_P (dC, dI) vwCl (fl [(w_X11 ad (b1) cs S1)]) H14 := hP'
    replace hD : va_D A (fl [(w_X11 ad (b1) cs S1)]) := hD'
    clear hP' hD' hS'
    refine lv_if_ne (tgt := 22) hx hb dX11_station_17 (by decide) (fun c17 => ?_) (fun c17 => ?_)
    · replace hR := it_f hR c17
      refine lv_aload_n hx hb dX11_station_22 rfl (lv_at hl 0 rfl) ?_
      refine va_get (D := (dC, dI)) (ci := 9) (v := .ref (ad (b1 + 1))) (C := RX11) (T := TX11) (N := 14) hx hb hts hinX11 hown hK hP 0 rfl rfl 0 (by decide) hF7 (fun _ h9 => h9) rfl dX11_station_23 ?_
      refine lv_iconst (v := 0) hx hb dX11_station_26 ic_0 ?_
      refine va_iald hx hb hK hP 1 0 rfl rfl vi_0_206 dX11_station_27 ?_
      refine lv_istore_n (lv' := [(3, .int (S1 0 (0 : Int32).toNatClampNeg)), (0, .ref (ad b1)), (1, .int p1), (2, .int p2)]) hx hb dX11_station_28 rfl hl (Nat.le_of_ble_eq_true rfl) rfl (fun ls hl => ?_)
      refine lv_iload_n hx hb dX11_station_29 rfl (lv_at hl 0 rfl) ?_
      refine lv_bipush (v := 6) hx hb dX11_station_30 bp_6 ?_
      refine lv_icmp_ne (tgt := 38) hx hb dX11_station_32 (by decide) (fun c32 => ?_) (fun c32 => ?_)
      · replace hR := it_f hR c32
        refine lv_aload_n hx hb dX11_station_38 rfl (lv_at hl 1 rfl) ?_
        replace hR := bd_e hR
        obtain ⟨q39, gq39, hR⟩ := hR
        refine cl_Vv (As := []) (rest := []) (L := [(w_X11 ad (b1) cs S1)]) (L' := [(w_X11 ad (b1) cs q39)]) (Wc := [(w_X11 ad (b1) cs S1)]) (Wc' := [(w_X11 ad (b1) cs q39)]) (is := [0]) (js := []) ⟨hx, hb, hml, hown, hts⟩ (k_X11_changes l dC dI cs ad (b1) H14.size S1 q39 gq39) (cwV 0 hts gX11_station_X11_changes rfl rfl rfl cd_X11_changes ⟨Nat.le_of_ble_eq_true rfl, Nat.le_of_ble_eq_true rfl⟩) hK hP hD hS hA ⟨rfl, rfl, rfl, rfl, rfl, rfl⟩ (jn_nd (is := [0]) hD rfl rfl) 0 9 rfl rfl rfl rfl rfl hl.1 (Nat.le_of_ble_eq_true rfl) dX11_station_39 (fun H39 locs39 hP' hD' hS' => ?_)
        replace hS := hS'
        replace hP : va_P (dC, dI) vwCl (fl [(w_X11 ad (b1) cs q39)]) H39 := hP'
        replace hD : va_D A (fl [(w_X11 ad (b1) cs q39)]) := hD'
        clear hP' hD' hS'
        refine lv_aload_n hx hb dX11_station_42 rfl (lv_at hl 1 rfl) ?_
        refine va_get (D := (dC, dI)) (ci := 9) (v := .ref (ad (b1 + 1))) (C := RX11) (T := TX11) (N := 14) hx hb hts hinX11 hown hK hP 0 rfl rfl 0 (by decide) hF7 (fun _ h9 => h9) rfl dX11_station_43 ?_
        refine lv_bipush (v := 8) hx hb dX11_station_46 bp_8 ?_
        refine lv_iconst (v := 4) hx hb dX11_station_48 ic_4 ?_
        refine lv_iload_n hx hb dX11_station_49 rfl (lv_at hl 0 rfl) ?_
        refine lv_imul hx hb dX11_station_50 ?_
        refine lv_iadd hx hb dX11_station_51 ?_
        refine lv_iconst (v := 0) hx hb dX11_station_52 ic_0 ?_
        refine lv_iadd hx hb dX11_station_53 ?_
        refine lv_iload_n hx hb dX11_station_54 rfl (lv_at hl 2 rfl) ?_
        replace hR := gi_e hR
        obtain ⟨i55, hR⟩ := hR
        refine va_iast hx hb hK hP hD hS 1 0 rfl rfl i55 dX11_station_55 (fun H55 locs55 hP' hD' hS' => ?_)
        replace hS := hS'
        have hP' : va_P (dC, dI) vwCl (fl [(w_X11 ad (b1) cs (sU q39 0 (sU (q39 0) (((8 : Int32) + ((4 : Int32) * (S1 0 (0 : Int32).toNatClampNeg))) + 0).toNatClampNeg p1)))]) H55 := hP'
        have hD' : va_D A (fl [(w_X11 ad (b1) cs (sU q39 0 (sU (q39 0) (((8 : Int32) + ((4 : Int32) * (S1 0 (0 : Int32).toNatClampNeg))) + 0).toNatClampNeg p1)))]) := hD'
        replace hR := bn_e hR
        obtain ⟨S1_55, eS1_55, hR⟩ := hR
        replace hP : va_P (dC, dI) vwCl (fl [(w_X11 ad (b1) cs S1_55)]) H55 := by rw [eS1_55]; exact hP'
        replace hD : va_D A (fl [(w_X11 ad (b1) cs S1_55)]) := by rw [eS1_55]; exact hD'
        clear hP' hD' hS'
        refine lv_aload_n hx hb dX11_station_56 rfl (lv_at hl 1 rfl) ?_
        refine va_get (D := (dC, dI)) (ci := 9) (v := .ref (ad (b1 + 1))) (C := RX11) (T := TX11) (N := 14) hx hb hts hinX11 hown hK hP 0 rfl rfl 0 (by decide) hF7 (fun _ h9 => h9) rfl dX11_station_57 ?_
        refine lv_bipush (v := 8) hx hb dX11_station_60 bp_8 ?_
        refine lv_iconst (v := 4) hx hb dX11_station_62 ic_4 ?_
        refine lv_iload_n hx hb dX11_station_63 rfl (lv_at hl 0 rfl) ?_
        refine lv_imul hx hb dX11_station_64 ?_
        refine lv_iadd hx hb dX11_station_65 ?_
        refine lv_iconst (v := 1) hx hb dX11_station_66 ic_1 ?_
        refine lv_iadd hx hb dX11_station_67 ?_
        refine lv_iload_n hx hb dX11_station_68 rfl (lv_at hl 3 rfl) ?_
        replace hR := gi_e hR
        obtain ⟨i69, hR⟩ := hR
        refine va_iast hx hb hK hP hD hS 1 0 rfl rfl i69 dX11_station_69 (fun H69 locs69 hP' hD' hS' => ?_)
        replace hS := hS'
        have hP' : va_P (dC, dI) vwCl (fl [(w_X11 ad (b1) cs (sU S1_55 0 (sU (S1_55 0) (((8 : Int32) + ((4 : Int32) * (S1 0 (0 : Int32).toNatClampNeg))) + 1).toNatClampNeg p2)))]) H69 := hP'
        have hD' : va_D A (fl [(w_X11 ad (b1) cs (sU S1_55 0 (sU (S1_55 0) (((8 : Int32) + ((4 : Int32) * (S1 0 (0 : Int32).toNatClampNeg))) + 1).toNatClampNeg p2)))]) := hD'
        replace hR := bn_e hR
        obtain ⟨S1_69, eS1_69, hR⟩ := hR
        replace hP : va_P (dC, dI) vwCl (fl [(w_X11 ad (b1) cs S1_69)]) H69 := by rw [eS1_69]; exact hP'
        replace hD : va_D A (fl [(w_X11 ad (b1) cs S1_69)]) := by rw [eS1_69]; exact hD'
        clear hP' hD' hS'
        refine lv_aload_n hx hb dX11_station_70 rfl (lv_at hl 1 rfl) ?_
        refine va_get (D := (dC, dI)) (ci := 9) (v := .ref (ad (b1 + 1))) (C := RX11) (T := TX11) (N := 14) hx hb hts hinX11 hown hK hP 0 rfl rfl 0 (by decide) hF7 (fun _ h9 => h9) rfl dX11_station_71 ?_
        refine lv_bipush (v := 8) hx hb dX11_station_74 bp_8 ?_
        refine lv_iconst (v := 4) hx hb dX11_station_76 ic_4 ?_
        refine lv_iload_n hx hb dX11_station_77 rfl (lv_at hl 0 rfl) ?_
        refine lv_imul hx hb dX11_station_78 ?_
        refine lv_iadd hx hb dX11_station_79 ?_
        refine lv_iconst (v := 2) hx hb dX11_station_80 ic_2 ?_
        refine lv_iadd hx hb dX11_station_81 ?_
        refine lv_iconst (v := 0) hx hb dX11_station_82 ic_0 ?_
        replace hR := gi_e hR
        obtain ⟨i83, hR⟩ := hR
        refine va_iast hx hb hK hP hD hS 1 0 rfl rfl i83 dX11_station_83 (fun H83 locs83 hP' hD' hS' => ?_)
        replace hS := hS'
        have hP' : va_P (dC, dI) vwCl (fl [(w_X11 ad (b1) cs (sU S1_69 0 (sU (S1_69 0) (((8 : Int32) + ((4 : Int32) * (S1 0 (0 : Int32).toNatClampNeg))) + 2).toNatClampNeg (0 : Int32))))]) H83 := hP'
        have hD' : va_D A (fl [(w_X11 ad (b1) cs (sU S1_69 0 (sU (S1_69 0) (((8 : Int32) + ((4 : Int32) * (S1 0 (0 : Int32).toNatClampNeg))) + 2).toNatClampNeg (0 : Int32))))]) := hD'
        replace hR := bn_e hR
        obtain ⟨S1_83, eS1_83, hR⟩ := hR
        replace hP : va_P (dC, dI) vwCl (fl [(w_X11 ad (b1) cs S1_83)]) H83 := by rw [eS1_83]; exact hP'
        replace hD : va_D A (fl [(w_X11 ad (b1) cs S1_83)]) := by rw [eS1_83]; exact hD'
        clear hP' hD' hS'
        refine lv_aload_n hx hb dX11_station_84 rfl (lv_at hl 1 rfl) ?_
        refine va_get (D := (dC, dI)) (ci := 9) (v := .ref (ad (b1 + 1))) (C := RX11) (T := TX11) (N := 14) hx hb hts hinX11 hown hK hP 0 rfl rfl 0 (by decide) hF7 (fun _ h9 => h9) rfl dX11_station_85 ?_
        refine lv_bipush (v := 8) hx hb dX11_station_88 bp_8 ?_
        refine lv_iconst (v := 4) hx hb dX11_station_90 ic_4 ?_
        refine lv_iload_n hx hb dX11_station_91 rfl (lv_at hl 0 rfl) ?_
        refine lv_imul hx hb dX11_station_92 ?_
        refine lv_iadd hx hb dX11_station_93 ?_
        refine lv_iconst (v := 3) hx hb dX11_station_94 ic_3 ?_
        refine lv_iadd hx hb dX11_station_95 ?_
        refine lv_iconst (v := 0) hx hb dX11_station_96 ic_0 ?_
        replace hR := gi_e hR
        obtain ⟨i97, hR⟩ := hR
        refine va_iast hx hb hK hP hD hS 1 0 rfl rfl i97 dX11_station_97 (fun H97 locs97 hP' hD' hS' => ?_)
        replace hS := hS'
        have hP' : va_P (dC, dI) vwCl (fl [(w_X11 ad (b1) cs (sU S1_83 0 (sU (S1_83 0) (((8 : Int32) + ((4 : Int32) * (S1 0 (0 : Int32).toNatClampNeg))) + 3).toNatClampNeg (0 : Int32))))]) H97 := hP'
        have hD' : va_D A (fl [(w_X11 ad (b1) cs (sU S1_83 0 (sU (S1_83 0) (((8 : Int32) + ((4 : Int32) * (S1 0 (0 : Int32).toNatClampNeg))) + 3).toNatClampNeg (0 : Int32))))]) := hD'
        replace hR := bn_e hR
        obtain ⟨S1_97, eS1_97, hR⟩ := hR
        replace hP : va_P (dC, dI) vwCl (fl [(w_X11 ad (b1) cs S1_97)]) H97 := by rw [eS1_97]; exact hP'
        replace hD : va_D A (fl [(w_X11 ad (b1) cs S1_97)]) := by rw [eS1_97]; exact hD'
        clear hP' hD' hS'
        refine lv_aload_n hx hb dX11_station_98 rfl (lv_at hl 1 rfl) ?_
        refine va_get (D := (dC, dI)) (ci := 9) (v := .ref (ad (b1 + 1))) (C := RX11) (T := TX11) (N := 14) hx hb hts hinX11 hown hK hP 0 rfl rfl 0 (by decide) hF7 (fun _ h9 => h9) rfl dX11_station_99 ?_
        refine lv_iconst (v := 0) hx hb dX11_station_102 ic_0 ?_
        refine lv_dup2_11 hx hb dX11_station_103 rfl rfl ?_
        refine va_iald hx hb hK hP 1 0 rfl rfl vi_0_206 dX11_station_104 ?_
        refine lv_iconst (v := 1) hx hb dX11_station_105 ic_1 ?_
        refine lv_iadd hx hb dX11_station_106 ?_
        refine va_iast hx hb hK hP hD hS 1 0 rfl rfl vi_0_206 dX11_station_107 (fun H107 locs107 hP' hD' hS' => ?_)
        replace hS := hS'
        have hP' : va_P (dC, dI) vwCl (fl [(w_X11 ad (b1) cs (sU S1_97 0 (sU (S1_97 0) (0 : Int32).toNatClampNeg ((S1_97 0 (0 : Int32).toNatClampNeg) + 1))))]) H107 := hP'
        have hD' : va_D A (fl [(w_X11 ad (b1) cs (sU S1_97 0 (sU (S1_97 0) (0 : Int32).toNatClampNeg ((S1_97 0 (0 : Int32).toNatClampNeg) + 1))))]) := hD'
        replace hR := bn_e hR
        obtain ⟨S1_107, eS1_107, hR⟩ := hR
        replace hP : va_P (dC, dI) vwCl (fl [(w_X11 ad (b1) cs S1_107)]) H107 := by rw [eS1_107]; exact hP'
        replace hD : va_D A (fl [(w_X11 ad (b1) cs S1_107)]) := by rw [eS1_107]; exact hD'
        clear hP' hD' hS'
        refine lv_iload_n hx hb dX11_station_108 rfl (lv_at hl 0 rfl) ?_
        replace hR := Option.some.inj hR
        obtain ⟨e9, hR⟩ := Prod.mk.inj hR
        have eu1 := hR
        replace hP : va_P (dC, dI) vwCl (fl [(w_X11 ad (b1) cs u1)]) H107 := by rw [← eu1]; exact hP
        replace hD : va_D A (fl [(w_X11 ad (b1) cs u1)]) := by rw [← eu1]; exact hD
        exact W.iret hx hb hr (fun t ht hW => ⟨⟨_, (), rfl, e9, by rw [ht]; exact hP, va_K.moved hW.alike hK, hD⟩, hS.F ht⟩) hS.2.2 dX11_station_109
      · replace hR := it_t hR c32
        refine lv_bipush (v := (-3)) hx hb dX11_station_35 bp_m3 ?_
        replace hR := Option.some.inj hR
        obtain ⟨e9, hR⟩ := Prod.mk.inj hR
        have eu1 := hR
        replace hP : va_P (dC, dI) vwCl (fl [(w_X11 ad (b1) cs u1)]) H14 := by rw [← eu1]; exact hP
        replace hD : va_D A (fl [(w_X11 ad (b1) cs u1)]) := by rw [← eu1]; exact hD
        exact W.iret hx hb hr (fun t ht hW => ⟨⟨_, (), rfl, e9, by rw [ht]; exact hP, va_K.moved hW.alike hK, hD⟩, hS.F ht⟩) hS.2.2 dX11_station_37
    · replace hR := it_t hR c17
      refine lv_iconst (v := (-1)) hx hb dX11_station_20 ic_m1 ?_
      replace hR := Option.some.inj hR
      obtain ⟨e9, hR⟩ := Prod.mk.inj hR
      have eu1 := hR
      replace hP : va_P (dC, dI) vwCl (fl [(w_X11 ad (b1) cs u1)]) H14 := by rw [← eu1]; exact hP
      replace hD : va_D A (fl [(w_X11 ad (b1) cs u1)]) := by rw [← eu1]; exact hD
      exact W.iret hx hb hr (fun t ht hW => ⟨⟨_, (), rfl, e9, by rw [ht]; exact hP, va_K.moved hW.alike hK, hD⟩, hS.F ht⟩) hS.2.2 dX11_station_21
set_option maxHeartbeats 8000000 in
set_option maxRecDepth 100000 in
theorem k_X11_bicycle (l : Launch) (dC : Nat → ClassId) (dI : Nat → Nat → Nat) (cs : Nat → ClassId) (ad : Nat → Nat) (b1 : Nat) (sz : Nat) (S1 : T2) (p1 : Int32) (r : Int32) (u1 : T2) (hR : fX11_bicycle S1 p1 = some (r, u1)) : Met l yX11_bicycle wsX11_bicycle ({ frames := 4, cells := 0, slots := 0, locals := 88 } : Room) (va_Pc [.ref (ad b1), .int p1] (pW dC dI (tyL cs) (fl [(w_X11 ad (b1) cs S1)]) sz)) (QI dC dI (tyL cs) (va_A (fl [(w_X11 ad (b1) cs S1)]) sz) (fl [(w_X11 ad (b1) cs u1)]) r) 0 0 (va_A (fl [(w_X11 ad (b1) cs S1)]) sz) := by
  refine mt_of (own := RX11) (cc := cX11_bicycle) (maxL := 4) (ret := (some .int)) (Qc := fun A => QI dC dI (tyL cs) A (fl [(w_X11 ad (b1) cs u1)]) r) rfl (by decide) rfl (Nat.le_of_ble_eq_true rfl) (fun p e s m below meth c A ls hsz hx hb hr hts hown hlocks hml hA hK hP hD hS hl => ?_)
  subst hsz
  have hl : lv_has ls 4 [(0, .ref (ad b1)), (1, .int p1)] := hl
  have hF7 := hts (.fieldLink RX11 7 "DockedBikesModel" "s" "[I") (List.mem_of_getElem? (i := 1) rfl)
  have hinX11 : ∀ w ∈ wsX110, w ∈ wsX11_bicycle := by decide +kernel
  have hB43 : ∀ (n43 : Nat), ∀ (S1_43h : T2) (v2_43 : Int32) (v3_43 : Int32) (H : Heap) (locs : List Loc) (ls : Array Slot), fX11_bicycle_43 p1 n43 S1_43h v2_43 v3_43 = some (r, u1) → va_P (dC, dI) vwCl (fl [(w_X11 ad (b1) cs S1_43h)]) H → va_D A (fl [(w_X11 ad (b1) cs S1_43h)]) → va_S A s.heap H locs → lv_has ls 4 [(0, .ref (ad b1)), (1, .int p1), (2, .int v2_43), (3, .int v3_43)] → W p l e (headSpec wsX11_bicycle ({ frames := 4, cells := 0, slots := 0, locals := 88 } : Room)).room s m ([.ref (ad b1), .int p1] : List Value).toArray below meth c H locs 0 0 (MQ below (QI dC dI (tyL cs) A (fl [(w_X11 ad (b1) cs u1)]) r) ([.ref (ad b1), .int p1] : List Value).toArray s 0 0 A) (F0 m 43 ls []) := by
    intro n43
    induction n43 with
    | zero =>
      intro S1_43h v2_43 v3_43 H locs ls hR hP hD hS hl
      exact nn_e hR
    | succ n43 hI43 =>
      intro S1_43h v2_43 v3_43 H locs ls hR hP hD hS hl
      rw [fX11_bicycle_43] at hR
      refine lv_iload_n hx hb dX11_bicycle_43 rfl (lv_at hl 3 rfl) ?_
      refine lv_bipush (v := 6) hx hb dX11_bicycle_44 bp_6 ?_
      refine lv_icmp_ge (tgt := 70) hx hb dX11_bicycle_46 (by decide) (fun c46 => ?_) (fun c46 => ?_)
      · replace hR := it_t hR c46
        refine lv_aload_n hx hb dX11_bicycle_70 rfl (lv_at hl 0 rfl) ?_
        refine lv_iload_n hx hb dX11_bicycle_71 rfl (lv_at hl 2 rfl) ?_
        refine lv_iconst (v := 0) hx hb dX11_bicycle_72 ic_0 ?_
        refine lv_iload_n hx hb dX11_bicycle_73 rfl (lv_at hl 1 rfl) ?_
        replace hR := bd_e hR
        obtain ⟨q74, gq74, hR⟩ := hR
        refine cl_Vv (As := [.int v2_43, .int (0 : Int32), .int p1]) (rest := []) (L := [(w_X11 ad (b1) cs S1_43h)]) (L' := [(w_X11 ad (b1) cs q74)]) (Wc := [(w_X11 ad (b1) cs S1_43h)]) (Wc' := [(w_X11 ad (b1) cs q74)]) (is := [0]) (js := []) ⟨hx, hb, hml, hown, hts⟩ (k_X11_puts l dC dI cs ad (b1) H.size S1_43h v2_43 (0 : Int32) p1 q74 gq74) (cwV 3 hts gX11_bicycle_X11_puts rfl rfl rfl cd_X11_puts ⟨Nat.le_of_ble_eq_true rfl, Nat.le_of_ble_eq_true rfl⟩) hK hP hD hS hA ⟨rfl, rfl, rfl, rfl, rfl, rfl⟩ (jn_nd (is := [0]) hD rfl rfl) 0 9 rfl rfl rfl rfl rfl hl.1 (Nat.le_of_ble_eq_true rfl) dX11_bicycle_74 (fun H74 locs74 hP' hD' hS' => ?_)
        replace hS := hS'
        replace hP : va_P (dC, dI) vwCl (fl [(w_X11 ad (b1) cs q74)]) H74 := hP'
        replace hD : va_D A (fl [(w_X11 ad (b1) cs q74)]) := hD'
        clear hP' hD' hS'
        refine lv_aload_n hx hb dX11_bicycle_77 rfl (lv_at hl 0 rfl) ?_
        refine va_get (D := (dC, dI)) (ci := 9) (v := .ref (ad (b1 + 1))) (C := RX11) (T := TX11) (N := 14) hx hb hts hinX11 hown hK hP 0 rfl rfl 0 (by decide) hF7 (fun _ h9 => h9) rfl dX11_bicycle_78 ?_
        refine lv_iconst (v := 1) hx hb dX11_bicycle_81 ic_1 ?_
        refine lv_dup2_11 hx hb dX11_bicycle_82 rfl rfl ?_
        refine va_iald hx hb hK hP 1 0 rfl rfl vi_1_206 dX11_bicycle_83 ?_
        refine lv_iconst (v := 1) hx hb dX11_bicycle_84 ic_1 ?_
        refine lv_iadd hx hb dX11_bicycle_85 ?_
        refine va_iast hx hb hK hP hD hS 1 0 rfl rfl vi_1_206 dX11_bicycle_86 (fun H86 locs86 hP' hD' hS' => ?_)
        replace hS := hS'
        have hP' : va_P (dC, dI) vwCl (fl [(w_X11 ad (b1) cs (sU q74 0 (sU (q74 0) (1 : Int32).toNatClampNeg ((q74 0 (1 : Int32).toNatClampNeg) + 1))))]) H86 := hP'
        have hD' : va_D A (fl [(w_X11 ad (b1) cs (sU q74 0 (sU (q74 0) (1 : Int32).toNatClampNeg ((q74 0 (1 : Int32).toNatClampNeg) + 1))))]) := hD'
        replace hR := bn_e hR
        obtain ⟨S1_86, eS1_86, hR⟩ := hR
        replace hP : va_P (dC, dI) vwCl (fl [(w_X11 ad (b1) cs S1_86)]) H86 := by rw [eS1_86]; exact hP'
        replace hD : va_D A (fl [(w_X11 ad (b1) cs S1_86)]) := by rw [eS1_86]; exact hD'
        clear hP' hD' hS'
        refine lv_iload_n hx hb dX11_bicycle_87 rfl (lv_at hl 2 rfl) ?_
        replace hR := Option.some.inj hR
        obtain ⟨e9, hR⟩ := Prod.mk.inj hR
        have eu1 := hR
        replace hP : va_P (dC, dI) vwCl (fl [(w_X11 ad (b1) cs u1)]) H86 := by rw [← eu1]; exact hP
        replace hD : va_D A (fl [(w_X11 ad (b1) cs u1)]) := by rw [← eu1]; exact hD
        exact W.iret hx hb hr (fun t ht hW => ⟨⟨_, (), rfl, e9, by rw [ht]; exact hP, va_K.moved hW.alike hK, hD⟩, hS.F ht⟩) hS.2.2 dX11_bicycle_88
      · replace hR := it_f hR c46
        refine lv_aload_n hx hb dX11_bicycle_49 rfl (lv_at hl 0 rfl) ?_
        refine va_get (D := (dC, dI)) (ci := 9) (v := .ref (ad (b1 + 1))) (C := RX11) (T := TX11) (N := 14) hx hb hts hinX11 hown hK hP 0 rfl rfl 0 (by decide) hF7 (fun _ h9 => h9) rfl dX11_bicycle_50 ?_
        refine lv_bipush (v := 32) hx hb dX11_bicycle_53 bp_32 ?_
        refine lv_bipush (v := 6) hx hb dX11_bicycle_55 bp_6 ?_
        refine lv_iload_n hx hb dX11_bicycle_57 rfl (lv_at hl 2 rfl) ?_
        refine lv_imul hx hb dX11_bicycle_58 ?_
        refine lv_iadd hx hb dX11_bicycle_59 ?_
        refine lv_iload_n hx hb dX11_bicycle_60 rfl (lv_at hl 3 rfl) ?_
        refine lv_iadd hx hb dX11_bicycle_61 ?_
        refine lv_iconst (v := 0) hx hb dX11_bicycle_62 ic_0 ?_
        replace hR := gi_e hR
        obtain ⟨i63, hR⟩ := hR
        refine va_iast hx hb hK hP hD hS 1 0 rfl rfl i63 dX11_bicycle_63 (fun H63 locs63 hP' hD' hS' => ?_)
        replace hS := hS'
        have hP' : va_P (dC, dI) vwCl (fl [(w_X11 ad (b1) cs (sU S1_43h 0 (sU (S1_43h 0) (((32 : Int32) + ((6 : Int32) * v2_43)) + v3_43).toNatClampNeg (0 : Int32))))]) H63 := hP'
        have hD' : va_D A (fl [(w_X11 ad (b1) cs (sU S1_43h 0 (sU (S1_43h 0) (((32 : Int32) + ((6 : Int32) * v2_43)) + v3_43).toNatClampNeg (0 : Int32))))]) := hD'
        replace hR := bn_e hR
        obtain ⟨S1_63, eS1_63, hR⟩ := hR
        replace hP : va_P (dC, dI) vwCl (fl [(w_X11 ad (b1) cs S1_63)]) H63 := by rw [eS1_63]; exact hP'
        replace hD : va_D A (fl [(w_X11 ad (b1) cs S1_63)]) := by rw [eS1_63]; exact hD'
        clear hP' hD' hS'
        refine lv_iinc (v := (v3_43 + 1)) (lv' := [(3, .int (v3_43 + 1)), (0, .ref (ad b1)), (1, .int p1), (2, .int v2_43)]) hx hb dX11_bicycle_64 hl (k := 3) rfl rfl (Nat.le_of_ble_eq_true rfl) rfl (fun ls hl => ?_)
        refine lv_goto (tgt := 43) hx hb dX11_bicycle_67 (by decide) ?_
        exact hI43 S1_63 v2_43 (v3_43 + 1) H63 _ ls hR hP hD hS (lv_sub hl [1, 2, 3, 0] rfl)
  refine lv_aload_n hx hb dX11_bicycle_0 rfl (lv_at hl 0 rfl) ?_
  refine lv_iload_n hx hb dX11_bicycle_1 rfl (lv_at hl 1 rfl) ?_
  replace hR := bd_e hR
  obtain ⟨q2, gq2, hR⟩ := hR
  refine cl_Vi (As := [.int p1]) (rest := []) (L := [(w_X11 ad (b1) cs S1)]) (L' := [(w_X11 ad (b1) cs S1)]) (Wc := [(w_X11 ad (b1) cs S1)]) (Wc' := [(w_X11 ad (b1) cs S1)]) (is := [0]) (js := []) ⟨hx, hb, hml, hown, hts⟩ (k_X11_isStation l dC dI cs ad (b1) s.heap.size S1 p1 q2 gq2) (cwV 1 hts gX11_bicycle_X11_isStation rfl rfl rfl cd_X11_isStation ⟨Nat.le_of_ble_eq_true rfl, Nat.le_of_ble_eq_true rfl⟩) hK hP hD hS hA ⟨rfl, rfl, rfl, rfl, rfl, rfl⟩ (jn_nd (is := [0]) hD rfl rfl) 0 9 rfl rfl rfl rfl rfl hl.1 (Nat.le_of_ble_eq_true rfl) dX11_bicycle_2 (fun H2 locs2 hP' hD' hS' => ?_)
  replace hS := hS'
  replace hP : va_P (dC, dI) vwCl (fl [(w_X11 ad (b1) cs S1)]) H2 := hP'
  replace hD : va_D A (fl [(w_X11 ad (b1) cs S1)]) := hD'
  clear hP' hD' hS'
  refine lv_if_ne (tgt := 10) hx hb dX11_bicycle_5 (by decide) (fun c5 => ?_) (fun c5 => ?_)
  · replace hR := it_f hR c5
    refine lv_aload_n hx hb dX11_bicycle_10 rfl (lv_at hl 0 rfl) ?_
    refine lv_iload_n hx hb dX11_bicycle_11 rfl (lv_at hl 1 rfl) ?_
    replace hR := bd_e hR
    obtain ⟨q12, gq12, hR⟩ := hR
    refine cl_Vi (As := [.int p1]) (rest := []) (L := [(w_X11 ad (b1) cs S1)]) (L' := [(w_X11 ad (b1) cs S1)]) (Wc := [(w_X11 ad (b1) cs S1)]) (Wc' := [(w_X11 ad (b1) cs S1)]) (is := [0]) (js := []) ⟨hx, hb, hml, hown, hts⟩ (k_X11_isFree l dC dI cs ad (b1) H2.size S1 p1 q12 gq12) (cwV 1 hts gX11_bicycle_X11_isFree rfl rfl rfl cd_X11_isFree ⟨Nat.le_of_ble_eq_true rfl, Nat.le_of_ble_eq_true rfl⟩) hK hP hD hS hA ⟨rfl, rfl, rfl, rfl, rfl, rfl⟩ (jn_nd (is := [0]) hD rfl rfl) 0 9 rfl rfl rfl rfl rfl hl.1 (Nat.le_of_ble_eq_true rfl) dX11_bicycle_12 (fun H12 locs12 hP' hD' hS' => ?_)
    replace hS := hS'
    replace hP : va_P (dC, dI) vwCl (fl [(w_X11 ad (b1) cs S1)]) H12 := hP'
    replace hD : va_D A (fl [(w_X11 ad (b1) cs S1)]) := hD'
    clear hP' hD' hS'
    refine lv_if_ne (tgt := 21) hx hb dX11_bicycle_15 (by decide) (fun c15 => ?_) (fun c15 => ?_)
    · replace hR := it_f hR c15
      refine lv_aload_n hx hb dX11_bicycle_21 rfl (lv_at hl 0 rfl) ?_
      refine va_get (D := (dC, dI)) (ci := 9) (v := .ref (ad (b1 + 1))) (C := RX11) (T := TX11) (N := 14) hx hb hts hinX11 hown hK hP 0 rfl rfl 0 (by decide) hF7 (fun _ h9 => h9) rfl dX11_bicycle_22 ?_
      refine lv_iconst (v := 1) hx hb dX11_bicycle_25 ic_1 ?_
      refine va_iald hx hb hK hP 1 0 rfl rfl vi_1_206 dX11_bicycle_26 ?_
      refine lv_istore_n (lv' := [(2, .int (S1 0 (1 : Int32).toNatClampNeg)), (0, .ref (ad b1)), (1, .int p1)]) hx hb dX11_bicycle_27 rfl hl (Nat.le_of_ble_eq_true rfl) rfl (fun ls hl => ?_)
      refine lv_iload_n hx hb dX11_bicycle_28 rfl (lv_at hl 0 rfl) ?_
      refine lv_bipush (v := 16) hx hb dX11_bicycle_29 bp_16 ?_
      refine lv_icmp_ne (tgt := 37) hx hb dX11_bicycle_31 (by decide) (fun c31 => ?_) (fun c31 => ?_)
      · replace hR := it_f hR c31
        refine lv_aload_n hx hb dX11_bicycle_37 rfl (lv_at hl 1 rfl) ?_
        replace hR := bd_e hR
        obtain ⟨q38, gq38, hR⟩ := hR
        refine cl_Vv (As := []) (rest := []) (L := [(w_X11 ad (b1) cs S1)]) (L' := [(w_X11 ad (b1) cs q38)]) (Wc := [(w_X11 ad (b1) cs S1)]) (Wc' := [(w_X11 ad (b1) cs q38)]) (is := [0]) (js := []) ⟨hx, hb, hml, hown, hts⟩ (k_X11_changes l dC dI cs ad (b1) H12.size S1 q38 gq38) (cwV 0 hts gX11_bicycle_X11_changes rfl rfl rfl cd_X11_changes ⟨Nat.le_of_ble_eq_true rfl, Nat.le_of_ble_eq_true rfl⟩) hK hP hD hS hA ⟨rfl, rfl, rfl, rfl, rfl, rfl⟩ (jn_nd (is := [0]) hD rfl rfl) 0 9 rfl rfl rfl rfl rfl hl.1 (Nat.le_of_ble_eq_true rfl) dX11_bicycle_38 (fun H38 locs38 hP' hD' hS' => ?_)
        replace hS := hS'
        replace hP : va_P (dC, dI) vwCl (fl [(w_X11 ad (b1) cs q38)]) H38 := hP'
        replace hD : va_D A (fl [(w_X11 ad (b1) cs q38)]) := hD'
        clear hP' hD' hS'
        refine lv_iconst (v := 0) hx hb dX11_bicycle_41 ic_0 ?_
        refine lv_istore_n (lv' := [(3, .int (0 : Int32)), (2, .int (S1 0 (1 : Int32).toNatClampNeg)), (0, .ref (ad b1)), (1, .int p1)]) hx hb dX11_bicycle_42 rfl hl (Nat.le_of_ble_eq_true rfl) rfl (fun ls hl => ?_)
        exact hB43 fuel q38 (S1 0 (1 : Int32).toNatClampNeg) (0 : Int32) H38 _ ls hR hP hD hS (lv_sub hl [2, 3, 1, 0] rfl)
      · replace hR := it_t hR c31
        refine lv_bipush (v := (-3)) hx hb dX11_bicycle_34 bp_m3 ?_
        replace hR := Option.some.inj hR
        obtain ⟨e9, hR⟩ := Prod.mk.inj hR
        have eu1 := hR
        replace hP : va_P (dC, dI) vwCl (fl [(w_X11 ad (b1) cs u1)]) H12 := by rw [← eu1]; exact hP
        replace hD : va_D A (fl [(w_X11 ad (b1) cs u1)]) := by rw [← eu1]; exact hD
        exact W.iret hx hb hr (fun t ht hW => ⟨⟨_, (), rfl, e9, by rw [ht]; exact hP, va_K.moved hW.alike hK, hD⟩, hS.F ht⟩) hS.2.2 dX11_bicycle_36
    · replace hR := it_t hR c15
      refine lv_bipush (v := (-2)) hx hb dX11_bicycle_18 bp_m2 ?_
      replace hR := Option.some.inj hR
      obtain ⟨e9, hR⟩ := Prod.mk.inj hR
      have eu1 := hR
      replace hP : va_P (dC, dI) vwCl (fl [(w_X11 ad (b1) cs u1)]) H12 := by rw [← eu1]; exact hP
      replace hD : va_D A (fl [(w_X11 ad (b1) cs u1)]) := by rw [← eu1]; exact hD
      exact W.iret hx hb hr (fun t ht hW => ⟨⟨_, (), rfl, e9, by rw [ht]; exact hP, va_K.moved hW.alike hK, hD⟩, hS.F ht⟩) hS.2.2 dX11_bicycle_20
  · replace hR := it_t hR c5
    refine lv_iconst (v := (-1)) hx hb dX11_bicycle_8 ic_m1 ?_
    replace hR := Option.some.inj hR
    obtain ⟨e9, hR⟩ := Prod.mk.inj hR
    have eu1 := hR
    replace hP : va_P (dC, dI) vwCl (fl [(w_X11 ad (b1) cs u1)]) H2 := by rw [← eu1]; exact hP
    replace hD : va_D A (fl [(w_X11 ad (b1) cs u1)]) := by rw [← eu1]; exact hD
    exact W.iret hx hb hr (fun t ht hW => ⟨⟨_, (), rfl, e9, by rw [ht]; exact hP, va_K.moved hW.alike hK, hD⟩, hS.F ht⟩) hS.2.2 dX11_bicycle_9
set_option maxHeartbeats 8000000 in
set_option maxRecDepth 100000 in
theorem k_X11_rider (l : Launch) (dC : Nat → ClassId) (dI : Nat → Nat → Nat) (cs : Nat → ClassId) (ad : Nat → Nat) (b1 : Nat) (sz : Nat) (S1 : T2) (r : Int32) (u1 : T2) (hR : fX11_rider S1 = some (r, u1)) : Met l yX11_rider wsX11_rider ({ frames := 1, cells := 0, slots := 0, locals := 21 } : Room) (va_Pc [.ref (ad b1)] (pW dC dI (tyL cs) (fl [(w_X11 ad (b1) cs S1)]) sz)) (QI dC dI (tyL cs) (va_A (fl [(w_X11 ad (b1) cs S1)]) sz) (fl [(w_X11 ad (b1) cs u1)]) r) 0 0 (va_A (fl [(w_X11 ad (b1) cs S1)]) sz) := by
  refine mt_of (own := RX11) (cc := cX11_rider) (maxL := 3) (ret := (some .int)) (Qc := fun A => QI dC dI (tyL cs) A (fl [(w_X11 ad (b1) cs u1)]) r) rfl (by decide) rfl (Nat.le_of_ble_eq_true rfl) (fun p e s m below meth c A ls hsz hx hb hr hts hown hlocks hml hA hK hP hD hS hl => ?_)
  subst hsz
  have hl : lv_has ls 3 [(0, .ref (ad b1))] := hl
  have hF7 := hts (.fieldLink RX11 7 "DockedBikesModel" "s" "[I") (List.mem_of_getElem? (i := 1) rfl)
  have hinX11 : ∀ w ∈ wsX110, w ∈ wsX11_rider := by decide +kernel
  have hB22 : ∀ (n22 : Nat), ∀ (S1_22h : T2) (v1_22 : Int32) (v2_22 : Int32) (H : Heap) (locs : List Loc) (ls : Array Slot), fX11_rider_22 n22 S1_22h v1_22 v2_22 = some (r, u1) → va_P (dC, dI) vwCl (fl [(w_X11 ad (b1) cs S1_22h)]) H → va_D A (fl [(w_X11 ad (b1) cs S1_22h)]) → va_S A s.heap H locs → lv_has ls 3 [(0, .ref (ad b1)), (1, .int v1_22), (2, .int v2_22)] → W p l e (headSpec wsX11_rider ({ frames := 1, cells := 0, slots := 0, locals := 21 } : Room)).room s m ([.ref (ad b1)] : List Value).toArray below meth c H locs 0 0 (MQ below (QI dC dI (tyL cs) A (fl [(w_X11 ad (b1) cs u1)]) r) ([.ref (ad b1)] : List Value).toArray s 0 0 A) (F0 m 22 ls []) := by
    intro n22
    induction n22 with
    | zero =>
      intro S1_22h v1_22 v2_22 H locs ls hR hP hD hS hl
      exact nn_e hR
    | succ n22 hI22 =>
      intro S1_22h v1_22 v2_22 H locs ls hR hP hD hS hl
      rw [fX11_rider_22] at hR
      refine lv_iload_n hx hb dX11_rider_22 rfl (lv_at hl 2 rfl) ?_
      refine lv_bipush (v := 9) hx hb dX11_rider_23 bp_9 ?_
      refine lv_icmp_ge (tgt := 50) hx hb dX11_rider_25 (by decide) (fun c25 => ?_) (fun c25 => ?_)
      · replace hR := it_t hR c25
        refine lv_aload_n hx hb dX11_rider_50 rfl (lv_at hl 0 rfl) ?_
        refine va_get (D := (dC, dI)) (ci := 9) (v := .ref (ad (b1 + 1))) (C := RX11) (T := TX11) (N := 14) hx hb hts hinX11 hown hK hP 0 rfl rfl 0 (by decide) hF7 (fun _ h9 => h9) rfl dX11_rider_51 ?_
        refine lv_sipush (v := 128) hx hb dX11_rider_54 sp_128 ?_
        refine lv_bipush (v := 9) hx hb dX11_rider_57 bp_9 ?_
        refine lv_iload_n hx hb dX11_rider_59 rfl (lv_at hl 1 rfl) ?_
        refine lv_imul hx hb dX11_rider_60 ?_
        refine lv_iadd hx hb dX11_rider_61 ?_
        refine lv_iconst (v := 2) hx hb dX11_rider_62 ic_2 ?_
        refine lv_iadd hx hb dX11_rider_63 ?_
        refine lv_bipush (v := (-4)) hx hb dX11_rider_64 bp_m4 ?_
        replace hR := gi_e hR
        obtain ⟨i66, hR⟩ := hR
        refine va_iast hx hb hK hP hD hS 1 0 rfl rfl i66 dX11_rider_66 (fun H66 locs66 hP' hD' hS' => ?_)
        replace hS := hS'
        have hP' : va_P (dC, dI) vwCl (fl [(w_X11 ad (b1) cs (sU S1_22h 0 (sU (S1_22h 0) (((128 : Int32) + ((9 : Int32) * v1_22)) + 2).toNatClampNeg (-4))))]) H66 := hP'
        have hD' : va_D A (fl [(w_X11 ad (b1) cs (sU S1_22h 0 (sU (S1_22h 0) (((128 : Int32) + ((9 : Int32) * v1_22)) + 2).toNatClampNeg (-4))))]) := hD'
        replace hR := bn_e hR
        obtain ⟨S1_66, eS1_66, hR⟩ := hR
        replace hP : va_P (dC, dI) vwCl (fl [(w_X11 ad (b1) cs S1_66)]) H66 := by rw [eS1_66]; exact hP'
        replace hD : va_D A (fl [(w_X11 ad (b1) cs S1_66)]) := by rw [eS1_66]; exact hD'
        clear hP' hD' hS'
        refine lv_aload_n hx hb dX11_rider_67 rfl (lv_at hl 0 rfl) ?_
        refine va_get (D := (dC, dI)) (ci := 9) (v := .ref (ad (b1 + 1))) (C := RX11) (T := TX11) (N := 14) hx hb hts hinX11 hown hK hP 0 rfl rfl 0 (by decide) hF7 (fun _ h9 => h9) rfl dX11_rider_68 ?_
        refine lv_iconst (v := 2) hx hb dX11_rider_71 ic_2 ?_
        refine lv_dup2_11 hx hb dX11_rider_72 rfl rfl ?_
        refine va_iald hx hb hK hP 1 0 rfl rfl vi_2_206 dX11_rider_73 ?_
        refine lv_iconst (v := 1) hx hb dX11_rider_74 ic_1 ?_
        refine lv_iadd hx hb dX11_rider_75 ?_
        refine va_iast hx hb hK hP hD hS 1 0 rfl rfl vi_2_206 dX11_rider_76 (fun H76 locs76 hP' hD' hS' => ?_)
        replace hS := hS'
        have hP' : va_P (dC, dI) vwCl (fl [(w_X11 ad (b1) cs (sU S1_66 0 (sU (S1_66 0) (2 : Int32).toNatClampNeg ((S1_66 0 (2 : Int32).toNatClampNeg) + 1))))]) H76 := hP'
        have hD' : va_D A (fl [(w_X11 ad (b1) cs (sU S1_66 0 (sU (S1_66 0) (2 : Int32).toNatClampNeg ((S1_66 0 (2 : Int32).toNatClampNeg) + 1))))]) := hD'
        replace hR := bn_e hR
        obtain ⟨S1_76, eS1_76, hR⟩ := hR
        replace hP : va_P (dC, dI) vwCl (fl [(w_X11 ad (b1) cs S1_76)]) H76 := by rw [eS1_76]; exact hP'
        replace hD : va_D A (fl [(w_X11 ad (b1) cs S1_76)]) := by rw [eS1_76]; exact hD'
        clear hP' hD' hS'
        refine lv_iload_n hx hb dX11_rider_77 rfl (lv_at hl 1 rfl) ?_
        replace hR := Option.some.inj hR
        obtain ⟨e9, hR⟩ := Prod.mk.inj hR
        have eu1 := hR
        replace hP : va_P (dC, dI) vwCl (fl [(w_X11 ad (b1) cs u1)]) H76 := by rw [← eu1]; exact hP
        replace hD : va_D A (fl [(w_X11 ad (b1) cs u1)]) := by rw [← eu1]; exact hD
        exact W.iret hx hb hr (fun t ht hW => ⟨⟨_, (), rfl, e9, by rw [ht]; exact hP, va_K.moved hW.alike hK, hD⟩, hS.F ht⟩) hS.2.2 dX11_rider_78
      · replace hR := it_f hR c25
        refine lv_aload_n hx hb dX11_rider_28 rfl (lv_at hl 0 rfl) ?_
        refine va_get (D := (dC, dI)) (ci := 9) (v := .ref (ad (b1 + 1))) (C := RX11) (T := TX11) (N := 14) hx hb hts hinX11 hown hK hP 0 rfl rfl 0 (by decide) hF7 (fun _ h9 => h9) rfl dX11_rider_29 ?_
        refine lv_sipush (v := 128) hx hb dX11_rider_32 sp_128 ?_
        refine lv_bipush (v := 9) hx hb dX11_rider_35 bp_9 ?_
        refine lv_iload_n hx hb dX11_rider_37 rfl (lv_at hl 1 rfl) ?_
        refine lv_imul hx hb dX11_rider_38 ?_
        refine lv_iadd hx hb dX11_rider_39 ?_
        refine lv_iload_n hx hb dX11_rider_40 rfl (lv_at hl 2 rfl) ?_
        refine lv_iadd hx hb dX11_rider_41 ?_
        refine lv_iconst (v := 0) hx hb dX11_rider_42 ic_0 ?_
        replace hR := gi_e hR
        obtain ⟨i43, hR⟩ := hR
        refine va_iast hx hb hK hP hD hS 1 0 rfl rfl i43 dX11_rider_43 (fun H43 locs43 hP' hD' hS' => ?_)
        replace hS := hS'
        have hP' : va_P (dC, dI) vwCl (fl [(w_X11 ad (b1) cs (sU S1_22h 0 (sU (S1_22h 0) (((128 : Int32) + ((9 : Int32) * v1_22)) + v2_22).toNatClampNeg (0 : Int32))))]) H43 := hP'
        have hD' : va_D A (fl [(w_X11 ad (b1) cs (sU S1_22h 0 (sU (S1_22h 0) (((128 : Int32) + ((9 : Int32) * v1_22)) + v2_22).toNatClampNeg (0 : Int32))))]) := hD'
        replace hR := bn_e hR
        obtain ⟨S1_43, eS1_43, hR⟩ := hR
        replace hP : va_P (dC, dI) vwCl (fl [(w_X11 ad (b1) cs S1_43)]) H43 := by rw [eS1_43]; exact hP'
        replace hD : va_D A (fl [(w_X11 ad (b1) cs S1_43)]) := by rw [eS1_43]; exact hD'
        clear hP' hD' hS'
        refine lv_iinc (v := (v2_22 + 1)) (lv' := [(2, .int (v2_22 + 1)), (0, .ref (ad b1)), (1, .int v1_22)]) hx hb dX11_rider_44 hl (k := 2) rfl rfl (Nat.le_of_ble_eq_true rfl) rfl (fun ls hl => ?_)
        refine lv_goto (tgt := 22) hx hb dX11_rider_47 (by decide) ?_
        exact hI22 S1_43 v1_22 (v2_22 + 1) H43 _ ls hR hP hD hS (lv_sub hl [1, 2, 0] rfl)
  refine lv_aload_n hx hb dX11_rider_0 rfl (lv_at hl 0 rfl) ?_
  refine va_get (D := (dC, dI)) (ci := 9) (v := .ref (ad (b1 + 1))) (C := RX11) (T := TX11) (N := 14) hx hb hts hinX11 hown hK hP 0 rfl rfl 0 (by decide) hF7 (fun _ h9 => h9) rfl dX11_rider_1 ?_
  refine lv_iconst (v := 2) hx hb dX11_rider_4 ic_2 ?_
  refine va_iald hx hb hK hP 1 0 rfl rfl vi_2_206 dX11_rider_5 ?_
  refine lv_istore_n (lv' := [(1, .int (S1 0 (2 : Int32).toNatClampNeg)), (0, .ref (ad b1))]) hx hb dX11_rider_6 rfl hl (Nat.le_of_ble_eq_true rfl) rfl (fun ls hl => ?_)
  refine lv_iload_n hx hb dX11_rider_7 rfl (lv_at hl 0 rfl) ?_
  refine lv_bipush (v := 8) hx hb dX11_rider_8 bp_8 ?_
  refine lv_icmp_ne (tgt := 16) hx hb dX11_rider_10 (by decide) (fun c10 => ?_) (fun c10 => ?_)
  · replace hR := it_f hR c10
    refine lv_aload_n hx hb dX11_rider_16 rfl (lv_at hl 1 rfl) ?_
    replace hR := bd_e hR
    obtain ⟨q17, gq17, hR⟩ := hR
    refine cl_Vv (As := []) (rest := []) (L := [(w_X11 ad (b1) cs S1)]) (L' := [(w_X11 ad (b1) cs q17)]) (Wc := [(w_X11 ad (b1) cs S1)]) (Wc' := [(w_X11 ad (b1) cs q17)]) (is := [0]) (js := []) ⟨hx, hb, hml, hown, hts⟩ (k_X11_changes l dC dI cs ad (b1) s.heap.size S1 q17 gq17) (cwV 0 hts gX11_rider_X11_changes rfl rfl rfl cd_X11_changes ⟨Nat.le_of_ble_eq_true rfl, Nat.le_of_ble_eq_true rfl⟩) hK hP hD hS hA ⟨rfl, rfl, rfl, rfl, rfl, rfl⟩ (jn_nd (is := [0]) hD rfl rfl) 0 9 rfl rfl rfl rfl rfl hl.1 (Nat.le_of_ble_eq_true rfl) dX11_rider_17 (fun H17 locs17 hP' hD' hS' => ?_)
    replace hS := hS'
    replace hP : va_P (dC, dI) vwCl (fl [(w_X11 ad (b1) cs q17)]) H17 := hP'
    replace hD : va_D A (fl [(w_X11 ad (b1) cs q17)]) := hD'
    clear hP' hD' hS'
    refine lv_iconst (v := 0) hx hb dX11_rider_20 ic_0 ?_
    refine lv_istore_n (lv' := [(2, .int (0 : Int32)), (1, .int (S1 0 (2 : Int32).toNatClampNeg)), (0, .ref (ad b1))]) hx hb dX11_rider_21 rfl hl (Nat.le_of_ble_eq_true rfl) rfl (fun ls hl => ?_)
    exact hB22 fuel q17 (S1 0 (2 : Int32).toNatClampNeg) (0 : Int32) H17 _ ls hR hP hD hS (lv_sub hl [2, 1, 0] rfl)
  · replace hR := it_t hR c10
    refine lv_bipush (v := (-3)) hx hb dX11_rider_13 bp_m3 ?_
    replace hR := Option.some.inj hR
    obtain ⟨e9, hR⟩ := Prod.mk.inj hR
    have eu1 := hR
    replace hP : va_P (dC, dI) vwCl (fl [(w_X11 ad (b1) cs u1)]) s.heap := by rw [← eu1]; exact hP
    replace hD : va_D A (fl [(w_X11 ad (b1) cs u1)]) := by rw [← eu1]; exact hD
    exact W.iret hx hb hr (fun t ht hW => ⟨⟨_, (), rfl, e9, by rw [ht]; exact hP, va_K.moved hW.alike hK, hD⟩, hS.F ht⟩) hS.2.2 dX11_rider_15
set_option maxHeartbeats 8000000 in
set_option maxRecDepth 100000 in
theorem k_X11_van (l : Launch) (dC : Nat → ClassId) (dI : Nat → Nat → Nat) (cs : Nat → ClassId) (ad : Nat → Nat) (b1 : Nat) (sz : Nat) (S1 : T2) (p1 : Int32) (p2 : Int32) (r : Int32) (u1 : T2) (hR : fX11_van S1 p1 p2 = some (r, u1)) : Met l yX11_van wsX11_van ({ frames := 1, cells := 0, slots := 0, locals := 22 } : Room) (va_Pc [.ref (ad b1), .int p1, .int p2] (pW dC dI (tyL cs) (fl [(w_X11 ad (b1) cs S1)]) sz)) (QI dC dI (tyL cs) (va_A (fl [(w_X11 ad (b1) cs S1)]) sz) (fl [(w_X11 ad (b1) cs u1)]) r) 0 0 (va_A (fl [(w_X11 ad (b1) cs S1)]) sz) := by
  refine mt_of (own := RX11) (cc := cX11_van) (maxL := 4) (ret := (some .int)) (Qc := fun A => QI dC dI (tyL cs) A (fl [(w_X11 ad (b1) cs u1)]) r) rfl (by decide) rfl (Nat.le_of_ble_eq_true rfl) (fun p e s m below meth c A ls hsz hx hb hr hts hown hlocks hml hA hK hP hD hS hl => ?_)
  subst hsz
  have hl : lv_has ls 4 [(0, .ref (ad b1)), (1, .int p1), (2, .int p2)] := hl
  have hF7 := hts (.fieldLink RX11 7 "DockedBikesModel" "s" "[I") (List.mem_of_getElem? (i := 1) rfl)
  have hinX11 : ∀ w ∈ wsX110, w ∈ wsX11_van := by decide +kernel
  refine lv_aload_n hx hb dX11_van_0 rfl (lv_at hl 0 rfl) ?_
  refine lv_iload_n hx hb dX11_van_1 rfl (lv_at hl 1 rfl) ?_
  replace hR := bd_e hR
  obtain ⟨q2, gq2, hR⟩ := hR
  refine cl_Vi (As := [.int p1]) (rest := []) (L := [(w_X11 ad (b1) cs S1)]) (L' := [(w_X11 ad (b1) cs S1)]) (Wc := [(w_X11 ad (b1) cs S1)]) (Wc' := [(w_X11 ad (b1) cs S1)]) (is := [0]) (js := []) ⟨hx, hb, hml, hown, hts⟩ (k_X11_isStation l dC dI cs ad (b1) s.heap.size S1 p1 q2 gq2) (cwV 1 hts gX11_van_X11_isStation rfl rfl rfl cd_X11_isStation ⟨Nat.le_of_ble_eq_true rfl, Nat.le_of_ble_eq_true rfl⟩) hK hP hD hS hA ⟨rfl, rfl, rfl, rfl, rfl, rfl⟩ (jn_nd (is := [0]) hD rfl rfl) 0 9 rfl rfl rfl rfl rfl hl.1 (Nat.le_of_ble_eq_true rfl) dX11_van_2 (fun H2 locs2 hP' hD' hS' => ?_)
  replace hS := hS'
  replace hP : va_P (dC, dI) vwCl (fl [(w_X11 ad (b1) cs S1)]) H2 := hP'
  replace hD : va_D A (fl [(w_X11 ad (b1) cs S1)]) := hD'
  clear hP' hD' hS'
  refine lv_if_eq (tgt := 18) hx hb dX11_van_5 (by decide) (fun c5 => ?_) (fun c5 => ?_)
  · replace hR := it_t hR c5
    refine lv_iconst (v := (-1)) hx hb dX11_van_18 ic_m1 ?_
    replace hR := Option.some.inj hR
    obtain ⟨e9, hR⟩ := Prod.mk.inj hR
    have eu1 := hR
    replace hP : va_P (dC, dI) vwCl (fl [(w_X11 ad (b1) cs u1)]) H2 := by rw [← eu1]; exact hP
    replace hD : va_D A (fl [(w_X11 ad (b1) cs u1)]) := by rw [← eu1]; exact hD
    exact W.iret hx hb hr (fun t ht hW => ⟨⟨_, (), rfl, e9, by rw [ht]; exact hP, va_K.moved hW.alike hK, hD⟩, hS.F ht⟩) hS.2.2 dX11_van_19
  · replace hR := it_f hR c5
    refine lv_iload_n hx hb dX11_van_8 rfl (lv_at hl 2 rfl) ?_
    refine lv_iconst (v := 1) hx hb dX11_van_9 ic_1 ?_
    refine lv_bipush (v := 6) hx hb dX11_van_10 bp_6 ?_
    replace hR := bd_e hR
    obtain ⟨q12, gq12, hR⟩ := hR
    refine cl_Si (As := [.int p2, .int (1 : Int32), .int (6 : Int32)]) (rest := []) (L := [(w_X11 ad (b1) cs S1)]) (L' := [(w_X11 ad (b1) cs S1)]) (Wc := []) (Wc' := []) (is := []) (js := [0]) ⟨hx, hb, hml, hown, hts⟩ (k_X11_in l dC dI cs ad H2.size p2 (1 : Int32) (6 : Int32) q12 gq12) (cwS 3 hts gX11_van_X11_in rfl rfl rfl cd_X11_in ⟨Nat.le_of_ble_eq_true rfl, Nat.le_of_ble_eq_true rfl⟩) hK hP hD hS hA ⟨rfl, rfl, rfl, rfl, rfl, rfl⟩ (jn_nd (is := []) hD rfl rfl) rfl rfl hl.1 (Nat.le_of_ble_eq_true rfl) dX11_van_12 (fun H12 locs12 hP' hD' hS' => ?_)
    replace hS := hS'
    replace hP : va_P (dC, dI) vwCl (fl [(w_X11 ad (b1) cs S1)]) H12 := hP'
    replace hD : va_D A (fl [(w_X11 ad (b1) cs S1)]) := hD'
    clear hP' hD' hS'
    refine lv_if_ne (tgt := 20) hx hb dX11_van_15 (by decide) (fun c15 => ?_) (fun c15 => ?_)
    · replace hR := it_f hR c15
      refine lv_aload_n hx hb dX11_van_20 rfl (lv_at hl 0 rfl) ?_
      refine va_get (D := (dC, dI)) (ci := 9) (v := .ref (ad (b1 + 1))) (C := RX11) (T := TX11) (N := 14) hx hb hts hinX11 hown hK hP 0 rfl rfl 0 (by decide) hF7 (fun _ h9 => h9) rfl dX11_van_21 ?_
      refine lv_iconst (v := 3) hx hb dX11_van_24 ic_3 ?_
      refine va_iald hx hb hK hP 1 0 rfl rfl vi_3_206 dX11_van_25 ?_
      refine lv_istore_n (lv' := [(3, .int (S1 0 (3 : Int32).toNatClampNeg)), (0, .ref (ad b1)), (1, .int p1), (2, .int p2)]) hx hb dX11_van_26 rfl hl (Nat.le_of_ble_eq_true rfl) rfl (fun ls hl => ?_)
      refine lv_iload_n hx hb dX11_van_27 rfl (lv_at hl 0 rfl) ?_
      refine lv_iconst (v := 2) hx hb dX11_van_28 ic_2 ?_
      refine lv_icmp_ne (tgt := 35) hx hb dX11_van_29 (by decide) (fun c29 => ?_) (fun c29 => ?_)
      · replace hR := it_f hR c29
        refine lv_aload_n hx hb dX11_van_35 rfl (lv_at hl 1 rfl) ?_
        replace hR := bd_e hR
        obtain ⟨q36, gq36, hR⟩ := hR
        refine cl_Vv (As := []) (rest := []) (L := [(w_X11 ad (b1) cs S1)]) (L' := [(w_X11 ad (b1) cs q36)]) (Wc := [(w_X11 ad (b1) cs S1)]) (Wc' := [(w_X11 ad (b1) cs q36)]) (is := [0]) (js := []) ⟨hx, hb, hml, hown, hts⟩ (k_X11_changes l dC dI cs ad (b1) H12.size S1 q36 gq36) (cwV 0 hts gX11_van_X11_changes rfl rfl rfl cd_X11_changes ⟨Nat.le_of_ble_eq_true rfl, Nat.le_of_ble_eq_true rfl⟩) hK hP hD hS hA ⟨rfl, rfl, rfl, rfl, rfl, rfl⟩ (jn_nd (is := [0]) hD rfl rfl) 0 9 rfl rfl rfl rfl rfl hl.1 (Nat.le_of_ble_eq_true rfl) dX11_van_36 (fun H36 locs36 hP' hD' hS' => ?_)
        replace hS := hS'
        replace hP : va_P (dC, dI) vwCl (fl [(w_X11 ad (b1) cs q36)]) H36 := hP'
        replace hD : va_D A (fl [(w_X11 ad (b1) cs q36)]) := hD'
        clear hP' hD' hS'
        refine lv_aload_n hx hb dX11_van_39 rfl (lv_at hl 1 rfl) ?_
        refine va_get (D := (dC, dI)) (ci := 9) (v := .ref (ad (b1 + 1))) (C := RX11) (T := TX11) (N := 14) hx hb hts hinX11 hown hK hP 0 rfl rfl 0 (by decide) hF7 (fun _ h9 => h9) rfl dX11_van_40 ?_
        refine lv_sipush (v := 200) hx hb dX11_van_43 sp_200 ?_
        refine lv_iconst (v := 3) hx hb dX11_van_46 ic_3 ?_
        refine lv_iload_n hx hb dX11_van_47 rfl (lv_at hl 0 rfl) ?_
        refine lv_imul hx hb dX11_van_48 ?_
        refine lv_iadd hx hb dX11_van_49 ?_
        refine lv_iconst (v := 0) hx hb dX11_van_50 ic_0 ?_
        refine lv_iadd hx hb dX11_van_51 ?_
        refine lv_iload_n hx hb dX11_van_52 rfl (lv_at hl 2 rfl) ?_
        replace hR := gi_e hR
        obtain ⟨i53, hR⟩ := hR
        refine va_iast hx hb hK hP hD hS 1 0 rfl rfl i53 dX11_van_53 (fun H53 locs53 hP' hD' hS' => ?_)
        replace hS := hS'
        have hP' : va_P (dC, dI) vwCl (fl [(w_X11 ad (b1) cs (sU q36 0 (sU (q36 0) (((200 : Int32) + ((3 : Int32) * (S1 0 (3 : Int32).toNatClampNeg))) + 0).toNatClampNeg p1)))]) H53 := hP'
        have hD' : va_D A (fl [(w_X11 ad (b1) cs (sU q36 0 (sU (q36 0) (((200 : Int32) + ((3 : Int32) * (S1 0 (3 : Int32).toNatClampNeg))) + 0).toNatClampNeg p1)))]) := hD'
        replace hR := bn_e hR
        obtain ⟨S1_53, eS1_53, hR⟩ := hR
        replace hP : va_P (dC, dI) vwCl (fl [(w_X11 ad (b1) cs S1_53)]) H53 := by rw [eS1_53]; exact hP'
        replace hD : va_D A (fl [(w_X11 ad (b1) cs S1_53)]) := by rw [eS1_53]; exact hD'
        clear hP' hD' hS'
        refine lv_aload_n hx hb dX11_van_54 rfl (lv_at hl 1 rfl) ?_
        refine va_get (D := (dC, dI)) (ci := 9) (v := .ref (ad (b1 + 1))) (C := RX11) (T := TX11) (N := 14) hx hb hts hinX11 hown hK hP 0 rfl rfl 0 (by decide) hF7 (fun _ h9 => h9) rfl dX11_van_55 ?_
        refine lv_sipush (v := 200) hx hb dX11_van_58 sp_200 ?_
        refine lv_iconst (v := 3) hx hb dX11_van_61 ic_3 ?_
        refine lv_iload_n hx hb dX11_van_62 rfl (lv_at hl 0 rfl) ?_
        refine lv_imul hx hb dX11_van_63 ?_
        refine lv_iadd hx hb dX11_van_64 ?_
        refine lv_iconst (v := 1) hx hb dX11_van_65 ic_1 ?_
        refine lv_iadd hx hb dX11_van_66 ?_
        refine lv_iload_n hx hb dX11_van_67 rfl (lv_at hl 3 rfl) ?_
        replace hR := gi_e hR
        obtain ⟨i68, hR⟩ := hR
        refine va_iast hx hb hK hP hD hS 1 0 rfl rfl i68 dX11_van_68 (fun H68 locs68 hP' hD' hS' => ?_)
        replace hS := hS'
        have hP' : va_P (dC, dI) vwCl (fl [(w_X11 ad (b1) cs (sU S1_53 0 (sU (S1_53 0) (((200 : Int32) + ((3 : Int32) * (S1 0 (3 : Int32).toNatClampNeg))) + 1).toNatClampNeg p2)))]) H68 := hP'
        have hD' : va_D A (fl [(w_X11 ad (b1) cs (sU S1_53 0 (sU (S1_53 0) (((200 : Int32) + ((3 : Int32) * (S1 0 (3 : Int32).toNatClampNeg))) + 1).toNatClampNeg p2)))]) := hD'
        replace hR := bn_e hR
        obtain ⟨S1_68, eS1_68, hR⟩ := hR
        replace hP : va_P (dC, dI) vwCl (fl [(w_X11 ad (b1) cs S1_68)]) H68 := by rw [eS1_68]; exact hP'
        replace hD : va_D A (fl [(w_X11 ad (b1) cs S1_68)]) := by rw [eS1_68]; exact hD'
        clear hP' hD' hS'
        refine lv_aload_n hx hb dX11_van_69 rfl (lv_at hl 1 rfl) ?_
        refine va_get (D := (dC, dI)) (ci := 9) (v := .ref (ad (b1 + 1))) (C := RX11) (T := TX11) (N := 14) hx hb hts hinX11 hown hK hP 0 rfl rfl 0 (by decide) hF7 (fun _ h9 => h9) rfl dX11_van_70 ?_
        refine lv_sipush (v := 200) hx hb dX11_van_73 sp_200 ?_
        refine lv_iconst (v := 3) hx hb dX11_van_76 ic_3 ?_
        refine lv_iload_n hx hb dX11_van_77 rfl (lv_at hl 0 rfl) ?_
        refine lv_imul hx hb dX11_van_78 ?_
        refine lv_iadd hx hb dX11_van_79 ?_
        refine lv_iconst (v := 2) hx hb dX11_van_80 ic_2 ?_
        refine lv_iadd hx hb dX11_van_81 ?_
        refine lv_iconst (v := 0) hx hb dX11_van_82 ic_0 ?_
        replace hR := gi_e hR
        obtain ⟨i83, hR⟩ := hR
        refine va_iast hx hb hK hP hD hS 1 0 rfl rfl i83 dX11_van_83 (fun H83 locs83 hP' hD' hS' => ?_)
        replace hS := hS'
        have hP' : va_P (dC, dI) vwCl (fl [(w_X11 ad (b1) cs (sU S1_68 0 (sU (S1_68 0) (((200 : Int32) + ((3 : Int32) * (S1 0 (3 : Int32).toNatClampNeg))) + 2).toNatClampNeg (0 : Int32))))]) H83 := hP'
        have hD' : va_D A (fl [(w_X11 ad (b1) cs (sU S1_68 0 (sU (S1_68 0) (((200 : Int32) + ((3 : Int32) * (S1 0 (3 : Int32).toNatClampNeg))) + 2).toNatClampNeg (0 : Int32))))]) := hD'
        replace hR := bn_e hR
        obtain ⟨S1_83, eS1_83, hR⟩ := hR
        replace hP : va_P (dC, dI) vwCl (fl [(w_X11 ad (b1) cs S1_83)]) H83 := by rw [eS1_83]; exact hP'
        replace hD : va_D A (fl [(w_X11 ad (b1) cs S1_83)]) := by rw [eS1_83]; exact hD'
        clear hP' hD' hS'
        refine lv_aload_n hx hb dX11_van_84 rfl (lv_at hl 1 rfl) ?_
        refine va_get (D := (dC, dI)) (ci := 9) (v := .ref (ad (b1 + 1))) (C := RX11) (T := TX11) (N := 14) hx hb hts hinX11 hown hK hP 0 rfl rfl 0 (by decide) hF7 (fun _ h9 => h9) rfl dX11_van_85 ?_
        refine lv_iconst (v := 3) hx hb dX11_van_88 ic_3 ?_
        refine lv_dup2_11 hx hb dX11_van_89 rfl rfl ?_
        refine va_iald hx hb hK hP 1 0 rfl rfl vi_3_206 dX11_van_90 ?_
        refine lv_iconst (v := 1) hx hb dX11_van_91 ic_1 ?_
        refine lv_iadd hx hb dX11_van_92 ?_
        refine va_iast hx hb hK hP hD hS 1 0 rfl rfl vi_3_206 dX11_van_93 (fun H93 locs93 hP' hD' hS' => ?_)
        replace hS := hS'
        have hP' : va_P (dC, dI) vwCl (fl [(w_X11 ad (b1) cs (sU S1_83 0 (sU (S1_83 0) (3 : Int32).toNatClampNeg ((S1_83 0 (3 : Int32).toNatClampNeg) + 1))))]) H93 := hP'
        have hD' : va_D A (fl [(w_X11 ad (b1) cs (sU S1_83 0 (sU (S1_83 0) (3 : Int32).toNatClampNeg ((S1_83 0 (3 : Int32).toNatClampNeg) + 1))))]) := hD'
        replace hR := bn_e hR
        obtain ⟨S1_93, eS1_93, hR⟩ := hR
        replace hP : va_P (dC, dI) vwCl (fl [(w_X11 ad (b1) cs S1_93)]) H93 := by rw [eS1_93]; exact hP'
        replace hD : va_D A (fl [(w_X11 ad (b1) cs S1_93)]) := by rw [eS1_93]; exact hD'
        clear hP' hD' hS'
        refine lv_iload_n hx hb dX11_van_94 rfl (lv_at hl 0 rfl) ?_
        replace hR := Option.some.inj hR
        obtain ⟨e9, hR⟩ := Prod.mk.inj hR
        have eu1 := hR
        replace hP : va_P (dC, dI) vwCl (fl [(w_X11 ad (b1) cs u1)]) H93 := by rw [← eu1]; exact hP
        replace hD : va_D A (fl [(w_X11 ad (b1) cs u1)]) := by rw [← eu1]; exact hD
        exact W.iret hx hb hr (fun t ht hW => ⟨⟨_, (), rfl, e9, by rw [ht]; exact hP, va_K.moved hW.alike hK, hD⟩, hS.F ht⟩) hS.2.2 dX11_van_95
      · replace hR := it_t hR c29
        refine lv_bipush (v := (-3)) hx hb dX11_van_32 bp_m3 ?_
        replace hR := Option.some.inj hR
        obtain ⟨e9, hR⟩ := Prod.mk.inj hR
        have eu1 := hR
        replace hP : va_P (dC, dI) vwCl (fl [(w_X11 ad (b1) cs u1)]) H12 := by rw [← eu1]; exact hP
        replace hD : va_D A (fl [(w_X11 ad (b1) cs u1)]) := by rw [← eu1]; exact hD
        exact W.iret hx hb hr (fun t ht hW => ⟨⟨_, (), rfl, e9, by rw [ht]; exact hP, va_K.moved hW.alike hK, hD⟩, hS.F ht⟩) hS.2.2 dX11_van_34
    · replace hR := it_t hR c15
      refine lv_iconst (v := (-1)) hx hb dX11_van_18 ic_m1 ?_
      replace hR := Option.some.inj hR
      obtain ⟨e9, hR⟩ := Prod.mk.inj hR
      have eu1 := hR
      replace hP : va_P (dC, dI) vwCl (fl [(w_X11 ad (b1) cs u1)]) H12 := by rw [← eu1]; exact hP
      replace hD : va_D A (fl [(w_X11 ad (b1) cs u1)]) := by rw [← eu1]; exact hD
      exact W.iret hx hb hr (fun t ht hW => ⟨⟨_, (), rfl, e9, by rw [ht]; exact hP, va_K.moved hW.alike hK, hD⟩, hS.F ht⟩) hS.2.2 dX11_van_19
set_option maxHeartbeats 8000000 in
set_option maxRecDepth 100000 in
theorem k_X11_hasPass (l : Launch) (dC : Nat → ClassId) (dI : Nat → Nat → Nat) (cs : Nat → ClassId) (ad : Nat → Nat) (b1 : Nat) (sz : Nat) (S1 : T2) (p1 : Int32) (r : Int32) (hR : fX11_hasPass S1 p1 = some r) : Met l yX11_hasPass wsX11_hasPass ({ frames := 1, cells := 0, slots := 0, locals := 22 } : Room) (va_Pc [.ref (ad b1), .int p1] (pW dC dI (tyL cs) (fl [(w_X11 ad (b1) cs S1)]) sz)) (QI dC dI (tyL cs) (va_A (fl [(w_X11 ad (b1) cs S1)]) sz) (fl [(w_X11 ad (b1) cs S1)]) r) 0 0 (va_A (fl [(w_X11 ad (b1) cs S1)]) sz) := by
  refine mt_of (own := RX11) (cc := cX11_hasPass) (maxL := 2) (ret := (some .boolean)) (Qc := fun A => QI dC dI (tyL cs) A (fl [(w_X11 ad (b1) cs S1)]) r) rfl (by decide) rfl (Nat.le_of_ble_eq_true rfl) (fun p e s m below meth c A ls hsz hx hb hr hts hown hlocks hml hA hK hP hD hS hl => ?_)
  subst hsz
  have hl : lv_has ls 2 [(0, .ref (ad b1)), (1, .int p1)] := hl
  have hF7 := hts (.fieldLink RX11 7 "DockedBikesModel" "s" "[I") (List.mem_of_getElem? (i := 1) rfl)
  have hinX11 : ∀ w ∈ wsX110, w ∈ wsX11_hasPass := by decide +kernel
  refine lv_aload_n hx hb dX11_hasPass_0 rfl (lv_at hl 0 rfl) ?_
  refine va_get (D := (dC, dI)) (ci := 9) (v := .ref (ad (b1 + 1))) (C := RX11) (T := TX11) (N := 14) hx hb hts hinX11 hown hK hP 0 rfl rfl 0 (by decide) hF7 (fun _ h9 => h9) rfl dX11_hasPass_1 ?_
  refine lv_iconst (v := 4) hx hb dX11_hasPass_4 ic_4 ?_
  refine va_iald hx hb hK hP 1 0 rfl rfl vi_4_206 dX11_hasPass_5 ?_
  refine lv_aload_n hx hb dX11_hasPass_6 rfl (lv_at hl 0 rfl) ?_
  refine lv_iload_n hx hb dX11_hasPass_7 rfl (lv_at hl 1 rfl) ?_
  refine lv_iconst (v := 1) hx hb dX11_hasPass_8 ic_1 ?_
  replace hR := bd_e hR
  obtain ⟨q9, gq9, hR⟩ := hR
  refine cl_Vi (As := [.int p1, .int (1 : Int32)]) (rest := [.int (S1 0 (4 : Int32).toNatClampNeg)]) (L := [(w_X11 ad (b1) cs S1)]) (L' := [(w_X11 ad (b1) cs S1)]) (Wc := [(w_X11 ad (b1) cs S1)]) (Wc' := [(w_X11 ad (b1) cs S1)]) (is := [0]) (js := []) ⟨hx, hb, hml, hown, hts⟩ (k_X11_ofRider l dC dI cs ad (b1) s.heap.size S1 p1 (1 : Int32) q9 gq9) (cwV 2 hts gX11_hasPass_X11_ofRider rfl rfl rfl cd_X11_ofRider ⟨Nat.le_of_ble_eq_true rfl, Nat.le_of_ble_eq_true rfl⟩) hK hP hD hS hA ⟨rfl, rfl, rfl, rfl, rfl, rfl⟩ (jn_nd (is := [0]) hD rfl rfl) 0 9 rfl rfl rfl rfl rfl hl.1 (Nat.le_of_ble_eq_true rfl) dX11_hasPass_9 (fun H9 locs9 hP' hD' hS' => ?_)
  replace hS := hS'
  replace hP : va_P (dC, dI) vwCl (fl [(w_X11 ad (b1) cs S1)]) H9 := hP'
  replace hD : va_D A (fl [(w_X11 ad (b1) cs S1)]) := hD'
  clear hP' hD' hS'
  refine lv_icmp_ge (tgt := 19) hx hb dX11_hasPass_12 (by decide) (fun c12 => ?_) (fun c12 => ?_)
  · replace hR := it_t hR c12
    refine lv_iconst (v := 0) hx hb dX11_hasPass_19 ic_0 ?_
    replace hR := Option.some.inj hR
    have e9 := hR
    exact W.zret (ty := .boolean) hx hb hr (by decide) (fun t ht hW => ⟨⟨_, (), rfl, e9, by rw [ht]; exact hP, va_K.moved hW.alike hK, hD⟩, hS.F ht⟩) hS.2.2 dX11_hasPass_20
  · replace hR := it_f hR c12
    refine lv_iconst (v := 1) hx hb dX11_hasPass_15 ic_1 ?_
    refine lv_goto (tgt := 20) hx hb dX11_hasPass_16 (by decide) ?_
    replace hR := Option.some.inj hR
    have e9 := hR
    exact W.zret (ty := .boolean) hx hb hr (by decide) (fun t ht hW => ⟨⟨_, (), rfl, e9, by rw [ht]; exact hP, va_K.moved hW.alike hK, hD⟩, hS.F ht⟩) hS.2.2 dX11_hasPass_20
set_option maxHeartbeats 8000000 in
set_option maxRecDepth 100000 in
theorem k_X11_pass (l : Launch) (dC : Nat → ClassId) (dI : Nat → Nat → Nat) (cs : Nat → ClassId) (ad : Nat → Nat) (b1 : Nat) (sz : Nat) (S1 : T2) (p1 : Int32) (r : Int32) (u1 : T2) (hR : fX11_pass S1 p1 = some (r, u1)) : Met l yX11_pass wsX11_pass ({ frames := 2, cells := 0, slots := 0, locals := 43 } : Room) (va_Pc [.ref (ad b1), .int p1] (pW dC dI (tyL cs) (fl [(w_X11 ad (b1) cs S1)]) sz)) (QI dC dI (tyL cs) (va_A (fl [(w_X11 ad (b1) cs S1)]) sz) (fl [(w_X11 ad (b1) cs u1)]) r) 0 0 (va_A (fl [(w_X11 ad (b1) cs S1)]) sz) := by
  refine mt_of (own := RX11) (cc := cX11_pass) (maxL := 3) (ret := (some .int)) (Qc := fun A => QI dC dI (tyL cs) A (fl [(w_X11 ad (b1) cs u1)]) r) rfl (by decide) rfl (Nat.le_of_ble_eq_true rfl) (fun p e s m below meth c A ls hsz hx hb hr hts hown hlocks hml hA hK hP hD hS hl => ?_)
  subst hsz
  have hl : lv_has ls 3 [(0, .ref (ad b1)), (1, .int p1)] := hl
  have hF7 := hts (.fieldLink RX11 7 "DockedBikesModel" "s" "[I") (List.mem_of_getElem? (i := 1) rfl)
  have hinX11 : ∀ w ∈ wsX110, w ∈ wsX11_pass := by decide +kernel
  have hB33 : ∀ (S1_33h : T2) (t0_33 : Int32) (H : Heap) (locs : List Loc) (ls : Array Slot), fX11_pass_33 p1 S1_33h t0_33 = some (r, u1) → va_P (dC, dI) vwCl (fl [(w_X11 ad (b1) cs S1_33h)]) H → va_D A (fl [(w_X11 ad (b1) cs S1_33h)]) → va_S A s.heap H locs → lv_has ls 3 [(0, .ref (ad b1)), (1, .int p1)] → W p l e (headSpec wsX11_pass ({ frames := 2, cells := 0, slots := 0, locals := 43 } : Room)).room s m ([.ref (ad b1), .int p1] : List Value).toArray below meth c H locs 0 0 (MQ below (QI dC dI (tyL cs) A (fl [(w_X11 ad (b1) cs u1)]) r) ([.ref (ad b1), .int p1] : List Value).toArray s 0 0 A) (F0 m 33 ls [.int t0_33]) := by
    intro S1_33h t0_33 H locs ls hR hP hD hS hl
    refine lv_sipush (v := 1000) hx hb dX11_pass_33 sp_1000 ?_
    refine lv_iadd hx hb dX11_pass_36 ?_
    refine lv_istore_n (lv' := [(2, .int (t0_33 + 1000)), (0, .ref (ad b1)), (1, .int p1)]) hx hb dX11_pass_37 rfl hl (Nat.le_of_ble_eq_true rfl) rfl (fun ls hl => ?_)
    refine lv_iload_n hx hb dX11_pass_38 rfl (lv_at hl 0 rfl) ?_
    refine lv_sipush (v := 20000) hx hb dX11_pass_39 sp_20000 ?_
    refine lv_icmp_le (tgt := 48) hx hb dX11_pass_42 (by decide) (fun c42 => ?_) (fun c42 => ?_)
    · replace hR := it_t hR c42
      refine lv_aload_n hx hb dX11_pass_48 rfl (lv_at hl 1 rfl) ?_
      replace hR := bd_e hR
      obtain ⟨q49, gq49, hR⟩ := hR
      refine cl_Vv (As := []) (rest := []) (L := [(w_X11 ad (b1) cs S1_33h)]) (L' := [(w_X11 ad (b1) cs q49)]) (Wc := [(w_X11 ad (b1) cs S1_33h)]) (Wc' := [(w_X11 ad (b1) cs q49)]) (is := [0]) (js := []) ⟨hx, hb, hml, hown, hts⟩ (k_X11_changes l dC dI cs ad (b1) H.size S1_33h q49 gq49) (cwV 0 hts gX11_pass_X11_changes rfl rfl rfl cd_X11_changes ⟨Nat.le_of_ble_eq_true rfl, Nat.le_of_ble_eq_true rfl⟩) hK hP hD hS hA ⟨rfl, rfl, rfl, rfl, rfl, rfl⟩ (jn_nd (is := [0]) hD rfl rfl) 0 9 rfl rfl rfl rfl rfl hl.1 (Nat.le_of_ble_eq_true rfl) dX11_pass_49 (fun H49 locs49 hP' hD' hS' => ?_)
      replace hS := hS'
      replace hP : va_P (dC, dI) vwCl (fl [(w_X11 ad (b1) cs q49)]) H49 := hP'
      replace hD : va_D A (fl [(w_X11 ad (b1) cs q49)]) := hD'
      clear hP' hD' hS'
      refine lv_aload_n hx hb dX11_pass_52 rfl (lv_at hl 1 rfl) ?_
      refine va_get (D := (dC, dI)) (ci := 9) (v := .ref (ad (b1 + 1))) (C := RX11) (T := TX11) (N := 14) hx hb hts hinX11 hown hK hP 0 rfl rfl 0 (by decide) hF7 (fun _ h9 => h9) rfl dX11_pass_53 ?_
      refine lv_sipush (v := 128) hx hb dX11_pass_56 sp_128 ?_
      refine lv_bipush (v := 9) hx hb dX11_pass_59 bp_9 ?_
      refine lv_iload_n hx hb dX11_pass_61 rfl (lv_at hl 2 rfl) ?_
      refine lv_imul hx hb dX11_pass_62 ?_
      refine lv_iadd hx hb dX11_pass_63 ?_
      refine lv_iconst (v := 1) hx hb dX11_pass_64 ic_1 ?_
      refine lv_iadd hx hb dX11_pass_65 ?_
      refine lv_iload_n hx hb dX11_pass_66 rfl (lv_at hl 0 rfl) ?_
      replace hR := gi_e hR
      obtain ⟨i67, hR⟩ := hR
      refine va_iast hx hb hK hP hD hS 1 0 rfl rfl i67 dX11_pass_67 (fun H67 locs67 hP' hD' hS' => ?_)
      replace hS := hS'
      have hP' : va_P (dC, dI) vwCl (fl [(w_X11 ad (b1) cs (sU q49 0 (sU (q49 0) (((128 : Int32) + ((9 : Int32) * p1)) + 1).toNatClampNeg (t0_33 + 1000))))]) H67 := hP'
      have hD' : va_D A (fl [(w_X11 ad (b1) cs (sU q49 0 (sU (q49 0) (((128 : Int32) + ((9 : Int32) * p1)) + 1).toNatClampNeg (t0_33 + 1000))))]) := hD'
      replace hR := bn_e hR
      obtain ⟨S1_67, eS1_67, hR⟩ := hR
      replace hP : va_P (dC, dI) vwCl (fl [(w_X11 ad (b1) cs S1_67)]) H67 := by rw [eS1_67]; exact hP'
      replace hD : va_D A (fl [(w_X11 ad (b1) cs S1_67)]) := by rw [eS1_67]; exact hD'
      clear hP' hD' hS'
      refine lv_aload_n hx hb dX11_pass_68 rfl (lv_at hl 1 rfl) ?_
      refine va_get (D := (dC, dI)) (ci := 9) (v := .ref (ad (b1 + 1))) (C := RX11) (T := TX11) (N := 14) hx hb hts hinX11 hown hK hP 0 rfl rfl 0 (by decide) hF7 (fun _ h9 => h9) rfl dX11_pass_69 ?_
      refine lv_sipush (v := 128) hx hb dX11_pass_72 sp_128 ?_
      refine lv_bipush (v := 9) hx hb dX11_pass_75 bp_9 ?_
      refine lv_iload_n hx hb dX11_pass_77 rfl (lv_at hl 2 rfl) ?_
      refine lv_imul hx hb dX11_pass_78 ?_
      refine lv_iadd hx hb dX11_pass_79 ?_
      refine lv_iconst (v := 0) hx hb dX11_pass_80 ic_0 ?_
      refine lv_iadd hx hb dX11_pass_81 ?_
      refine lv_dup2_11 hx hb dX11_pass_82 rfl rfl ?_
      replace hR := gi_e hR
      obtain ⟨i83, hR⟩ := hR
      refine va_iald hx hb hK hP 1 0 rfl rfl i83 dX11_pass_83 ?_
      refine lv_aload_n hx hb dX11_pass_84 rfl (lv_at hl 1 rfl) ?_
      refine va_get (D := (dC, dI)) (ci := 9) (v := .ref (ad (b1 + 1))) (C := RX11) (T := TX11) (N := 14) hx hb hts hinX11 hown hK hP 0 rfl rfl 0 (by decide) hF7 (fun _ h9 => h9) rfl dX11_pass_85 ?_
      refine lv_bipush (v := 7) hx hb dX11_pass_88 bp_7 ?_
      refine va_iald hx hb hK hP 1 0 rfl rfl vi_7_206 dX11_pass_90 ?_
      refine lv_iadd hx hb dX11_pass_91 ?_
      replace hR := gi_e hR
      obtain ⟨i92, hR⟩ := hR
      refine va_iast hx hb hK hP hD hS 1 0 rfl rfl i92 dX11_pass_92 (fun H92 locs92 hP' hD' hS' => ?_)
      replace hS := hS'
      have hP' : va_P (dC, dI) vwCl (fl [(w_X11 ad (b1) cs (sU S1_67 0 (sU (S1_67 0) (((128 : Int32) + ((9 : Int32) * p1)) + 0).toNatClampNeg ((S1_67 0 (((128 : Int32) + ((9 : Int32) * p1)) + 0).toNatClampNeg) + (S1_67 0 (7 : Int32).toNatClampNeg)))))]) H92 := hP'
      have hD' : va_D A (fl [(w_X11 ad (b1) cs (sU S1_67 0 (sU (S1_67 0) (((128 : Int32) + ((9 : Int32) * p1)) + 0).toNatClampNeg ((S1_67 0 (((128 : Int32) + ((9 : Int32) * p1)) + 0).toNatClampNeg) + (S1_67 0 (7 : Int32).toNatClampNeg)))))]) := hD'
      replace hR := bn_e hR
      obtain ⟨S1_92, eS1_92, hR⟩ := hR
      replace hP : va_P (dC, dI) vwCl (fl [(w_X11 ad (b1) cs S1_92)]) H92 := by rw [eS1_92]; exact hP'
      replace hD : va_D A (fl [(w_X11 ad (b1) cs S1_92)]) := by rw [eS1_92]; exact hD'
      clear hP' hD' hS'
      refine lv_aload_n hx hb dX11_pass_93 rfl (lv_at hl 1 rfl) ?_
      refine va_get (D := (dC, dI)) (ci := 9) (v := .ref (ad (b1 + 1))) (C := RX11) (T := TX11) (N := 14) hx hb hts hinX11 hown hK hP 0 rfl rfl 0 (by decide) hF7 (fun _ h9 => h9) rfl dX11_pass_94 ?_
      refine lv_sipush (v := 128) hx hb dX11_pass_97 sp_128 ?_
      refine lv_bipush (v := 9) hx hb dX11_pass_100 bp_9 ?_
      refine lv_iload_n hx hb dX11_pass_102 rfl (lv_at hl 2 rfl) ?_
      refine lv_imul hx hb dX11_pass_103 ?_
      refine lv_iadd hx hb dX11_pass_104 ?_
      refine lv_bipush (v := 8) hx hb dX11_pass_105 bp_8 ?_
      refine lv_iadd hx hb dX11_pass_107 ?_
      refine lv_dup2_11 hx hb dX11_pass_108 rfl rfl ?_
      replace hR := gi_e hR
      obtain ⟨i109, hR⟩ := hR
      refine va_iald hx hb hK hP 1 0 rfl rfl i109 dX11_pass_109 ?_
      refine lv_aload_n hx hb dX11_pass_110 rfl (lv_at hl 1 rfl) ?_
      refine va_get (D := (dC, dI)) (ci := 9) (v := .ref (ad (b1 + 1))) (C := RX11) (T := TX11) (N := 14) hx hb hts hinX11 hown hK hP 0 rfl rfl 0 (by decide) hF7 (fun _ h9 => h9) rfl dX11_pass_111 ?_
      refine lv_bipush (v := 7) hx hb dX11_pass_114 bp_7 ?_
      refine va_iald hx hb hK hP 1 0 rfl rfl vi_7_206 dX11_pass_116 ?_
      refine lv_iadd hx hb dX11_pass_117 ?_
      replace hR := gi_e hR
      obtain ⟨i118, hR⟩ := hR
      refine va_iast hx hb hK hP hD hS 1 0 rfl rfl i118 dX11_pass_118 (fun H118 locs118 hP' hD' hS' => ?_)
      replace hS := hS'
      have hP' : va_P (dC, dI) vwCl (fl [(w_X11 ad (b1) cs (sU S1_92 0 (sU (S1_92 0) (((128 : Int32) + ((9 : Int32) * p1)) + 8).toNatClampNeg ((S1_92 0 (((128 : Int32) + ((9 : Int32) * p1)) + 8).toNatClampNeg) + (S1_92 0 (7 : Int32).toNatClampNeg)))))]) H118 := hP'
      have hD' : va_D A (fl [(w_X11 ad (b1) cs (sU S1_92 0 (sU (S1_92 0) (((128 : Int32) + ((9 : Int32) * p1)) + 8).toNatClampNeg ((S1_92 0 (((128 : Int32) + ((9 : Int32) * p1)) + 8).toNatClampNeg) + (S1_92 0 (7 : Int32).toNatClampNeg)))))]) := hD'
      replace hR := bn_e hR
      obtain ⟨S1_118, eS1_118, hR⟩ := hR
      replace hP : va_P (dC, dI) vwCl (fl [(w_X11 ad (b1) cs S1_118)]) H118 := by rw [eS1_118]; exact hP'
      replace hD : va_D A (fl [(w_X11 ad (b1) cs S1_118)]) := by rw [eS1_118]; exact hD'
      clear hP' hD' hS'
      refine lv_iload_n hx hb dX11_pass_119 rfl (lv_at hl 0 rfl) ?_
      replace hR := Option.some.inj hR
      obtain ⟨e9, hR⟩ := Prod.mk.inj hR
      have eu1 := hR
      replace hP : va_P (dC, dI) vwCl (fl [(w_X11 ad (b1) cs u1)]) H118 := by rw [← eu1]; exact hP
      replace hD : va_D A (fl [(w_X11 ad (b1) cs u1)]) := by rw [← eu1]; exact hD
      exact W.iret hx hb hr (fun t ht hW => ⟨⟨_, (), rfl, e9, by rw [ht]; exact hP, va_K.moved hW.alike hK, hD⟩, hS.F ht⟩) hS.2.2 dX11_pass_120
    · replace hR := it_f hR c42
      refine lv_bipush (v := (-3)) hx hb dX11_pass_45 bp_m3 ?_
      replace hR := Option.some.inj hR
      obtain ⟨e9, hR⟩ := Prod.mk.inj hR
      have eu1 := hR
      replace hP : va_P (dC, dI) vwCl (fl [(w_X11 ad (b1) cs u1)]) H := by rw [← eu1]; exact hP
      replace hD : va_D A (fl [(w_X11 ad (b1) cs u1)]) := by rw [← eu1]; exact hD
      exact W.iret hx hb hr (fun t ht hW => ⟨⟨_, (), rfl, e9, by rw [ht]; exact hP, va_K.moved hW.alike hK, hD⟩, hS.F ht⟩) hS.2.2 dX11_pass_47
  refine lv_aload_n hx hb dX11_pass_0 rfl (lv_at hl 0 rfl) ?_
  refine lv_iload_n hx hb dX11_pass_1 rfl (lv_at hl 1 rfl) ?_
  replace hR := bd_e hR
  obtain ⟨q2, gq2, hR⟩ := hR
  refine cl_Vi (As := [.int p1]) (rest := []) (L := [(w_X11 ad (b1) cs S1)]) (L' := [(w_X11 ad (b1) cs S1)]) (Wc := [(w_X11 ad (b1) cs S1)]) (Wc' := [(w_X11 ad (b1) cs S1)]) (is := [0]) (js := []) ⟨hx, hb, hml, hown, hts⟩ (k_X11_isRider l dC dI cs ad (b1) s.heap.size S1 p1 q2 gq2) (cwV 1 hts gX11_pass_X11_isRider rfl rfl rfl cd_X11_isRider ⟨Nat.le_of_ble_eq_true rfl, Nat.le_of_ble_eq_true rfl⟩) hK hP hD hS hA ⟨rfl, rfl, rfl, rfl, rfl, rfl⟩ (jn_nd (is := [0]) hD rfl rfl) 0 9 rfl rfl rfl rfl rfl hl.1 (Nat.le_of_ble_eq_true rfl) dX11_pass_2 (fun H2 locs2 hP' hD' hS' => ?_)
  replace hS := hS'
  replace hP : va_P (dC, dI) vwCl (fl [(w_X11 ad (b1) cs S1)]) H2 := hP'
  replace hD : va_D A (fl [(w_X11 ad (b1) cs S1)]) := hD'
  clear hP' hD' hS'
  refine lv_if_ne (tgt := 10) hx hb dX11_pass_5 (by decide) (fun c5 => ?_) (fun c5 => ?_)
  · replace hR := it_f hR c5
    refine lv_aload_n hx hb dX11_pass_10 rfl (lv_at hl 0 rfl) ?_
    refine lv_iload_n hx hb dX11_pass_11 rfl (lv_at hl 1 rfl) ?_
    replace hR := bd_e hR
    obtain ⟨q12, gq12, hR⟩ := hR
    refine cl_Vi (As := [.int p1]) (rest := []) (L := [(w_X11 ad (b1) cs S1)]) (L' := [(w_X11 ad (b1) cs S1)]) (Wc := [(w_X11 ad (b1) cs S1)]) (Wc' := [(w_X11 ad (b1) cs S1)]) (is := [0]) (js := []) ⟨hx, hb, hml, hown, hts⟩ (k_X11_hasPass l dC dI cs ad (b1) H2.size S1 p1 q12 gq12) (cwV 1 hts gX11_pass_X11_hasPass rfl rfl rfl cd_X11_hasPass ⟨Nat.le_of_ble_eq_true rfl, Nat.le_of_ble_eq_true rfl⟩) hK hP hD hS hA ⟨rfl, rfl, rfl, rfl, rfl, rfl⟩ (jn_nd (is := [0]) hD rfl rfl) 0 9 rfl rfl rfl rfl rfl hl.1 (Nat.le_of_ble_eq_true rfl) dX11_pass_12 (fun H12 locs12 hP' hD' hS' => ?_)
    replace hS := hS'
    replace hP : va_P (dC, dI) vwCl (fl [(w_X11 ad (b1) cs S1)]) H12 := hP'
    replace hD : va_D A (fl [(w_X11 ad (b1) cs S1)]) := hD'
    clear hP' hD' hS'
    refine lv_if_eq (tgt := 27) hx hb dX11_pass_15 (by decide) (fun c15 => ?_) (fun c15 => ?_)
    · replace hR := it_t hR c15
      refine lv_aload_n hx hb dX11_pass_27 rfl (lv_at hl 0 rfl) ?_
      refine va_get (D := (dC, dI)) (ci := 9) (v := .ref (ad (b1 + 1))) (C := RX11) (T := TX11) (N := 14) hx hb hts hinX11 hown hK hP 0 rfl rfl 0 (by decide) hF7 (fun _ h9 => h9) rfl dX11_pass_28 ?_
      refine lv_iconst (v := 4) hx hb dX11_pass_31 ic_4 ?_
      refine va_iald hx hb hK hP 1 0 rfl rfl vi_4_206 dX11_pass_32 ?_
      exact hB33 S1 (S1 0 (4 : Int32).toNatClampNeg) H12 _ ls hR hP hD hS (lv_sub hl [0, 1] rfl)
    · replace hR := it_f hR c15
      refine lv_aload_n hx hb dX11_pass_18 rfl (lv_at hl 0 rfl) ?_
      refine lv_iload_n hx hb dX11_pass_19 rfl (lv_at hl 1 rfl) ?_
      refine lv_iconst (v := 1) hx hb dX11_pass_20 ic_1 ?_
      replace hR := bd_e hR
      obtain ⟨q21, gq21, hR⟩ := hR
      refine cl_Vi (As := [.int p1, .int (1 : Int32)]) (rest := []) (L := [(w_X11 ad (b1) cs S1)]) (L' := [(w_X11 ad (b1) cs S1)]) (Wc := [(w_X11 ad (b1) cs S1)]) (Wc' := [(w_X11 ad (b1) cs S1)]) (is := [0]) (js := []) ⟨hx, hb, hml, hown, hts⟩ (k_X11_ofRider l dC dI cs ad (b1) H12.size S1 p1 (1 : Int32) q21 gq21) (cwV 2 hts gX11_pass_X11_ofRider rfl rfl rfl cd_X11_ofRider ⟨Nat.le_of_ble_eq_true rfl, Nat.le_of_ble_eq_true rfl⟩) hK hP hD hS hA ⟨rfl, rfl, rfl, rfl, rfl, rfl⟩ (jn_nd (is := [0]) hD rfl rfl) 0 9 rfl rfl rfl rfl rfl hl.1 (Nat.le_of_ble_eq_true rfl) dX11_pass_21 (fun H21 locs21 hP' hD' hS' => ?_)
      replace hS := hS'
      replace hP : va_P (dC, dI) vwCl (fl [(w_X11 ad (b1) cs S1)]) H21 := hP'
      replace hD : va_D A (fl [(w_X11 ad (b1) cs S1)]) := hD'
      clear hP' hD' hS'
      refine lv_goto (tgt := 33) hx hb dX11_pass_24 (by decide) ?_
      exact hB33 S1 q21 H21 _ ls hR hP hD hS (lv_sub hl [0, 1] rfl)
  · replace hR := it_t hR c5
    refine lv_iconst (v := (-1)) hx hb dX11_pass_8 ic_m1 ?_
    replace hR := Option.some.inj hR
    obtain ⟨e9, hR⟩ := Prod.mk.inj hR
    have eu1 := hR
    replace hP : va_P (dC, dI) vwCl (fl [(w_X11 ad (b1) cs u1)]) H2 := by rw [← eu1]; exact hP
    replace hD : va_D A (fl [(w_X11 ad (b1) cs u1)]) := by rw [← eu1]; exact hD
    exact W.iret hx hb hr (fun t ht hW => ⟨⟨_, (), rfl, e9, by rw [ht]; exact hP, va_K.moved hW.alike hK, hD⟩, hS.F ht⟩) hS.2.2 dX11_pass_9
set_option maxHeartbeats 8000000 in
set_option maxRecDepth 100000 in
theorem k_X11_rides (l : Launch) (dC : Nat → ClassId) (dI : Nat → Nat → Nat) (cs : Nat → ClassId) (ad : Nat → Nat) (b1 : Nat) (sz : Nat) (S1 : T2) (p1 : Int32) (r : Int32) (hR : fX11_rides S1 p1 = some r) : Met l yX11_rides wsX11_rides ({ frames := 1, cells := 0, slots := 0, locals := 22 } : Room) (va_Pc [.ref (ad b1), .int p1] (pW dC dI (tyL cs) (fl [(w_X11 ad (b1) cs S1)]) sz)) (QI dC dI (tyL cs) (va_A (fl [(w_X11 ad (b1) cs S1)]) sz) (fl [(w_X11 ad (b1) cs S1)]) r) 0 0 (va_A (fl [(w_X11 ad (b1) cs S1)]) sz) := by
  refine mt_of (own := RX11) (cc := cX11_rides) (maxL := 2) (ret := (some .boolean)) (Qc := fun A => QI dC dI (tyL cs) A (fl [(w_X11 ad (b1) cs S1)]) r) rfl (by decide) rfl (Nat.le_of_ble_eq_true rfl) (fun p e s m below meth c A ls hsz hx hb hr hts hown hlocks hml hA hK hP hD hS hl => ?_)
  subst hsz
  have hl : lv_has ls 2 [(0, .ref (ad b1)), (1, .int p1)] := hl
  refine lv_aload_n hx hb dX11_rides_0 rfl (lv_at hl 0 rfl) ?_
  refine lv_iload_n hx hb dX11_rides_1 rfl (lv_at hl 1 rfl) ?_
  refine lv_iconst (v := 2) hx hb dX11_rides_2 ic_2 ?_
  replace hR := bd_e hR
  obtain ⟨q3, gq3, hR⟩ := hR
  refine cl_Vi (As := [.int p1, .int (2 : Int32)]) (rest := []) (L := [(w_X11 ad (b1) cs S1)]) (L' := [(w_X11 ad (b1) cs S1)]) (Wc := [(w_X11 ad (b1) cs S1)]) (Wc' := [(w_X11 ad (b1) cs S1)]) (is := [0]) (js := []) ⟨hx, hb, hml, hown, hts⟩ (k_X11_ofRider l dC dI cs ad (b1) s.heap.size S1 p1 (2 : Int32) q3 gq3) (cwV 2 hts gX11_rides_X11_ofRider rfl rfl rfl cd_X11_ofRider ⟨Nat.le_of_ble_eq_true rfl, Nat.le_of_ble_eq_true rfl⟩) hK hP hD hS hA ⟨rfl, rfl, rfl, rfl, rfl, rfl⟩ (jn_nd (is := [0]) hD rfl rfl) 0 9 rfl rfl rfl rfl rfl hl.1 (Nat.le_of_ble_eq_true rfl) dX11_rides_3 (fun H3 locs3 hP' hD' hS' => ?_)
  replace hS := hS'
  replace hP : va_P (dC, dI) vwCl (fl [(w_X11 ad (b1) cs S1)]) H3 := hP'
  replace hD : va_D A (fl [(w_X11 ad (b1) cs S1)]) := hD'
  clear hP' hD' hS'
  refine lv_if_lt (tgt := 13) hx hb dX11_rides_6 (by decide) (fun c6 => ?_) (fun c6 => ?_)
  · replace hR := it_t hR c6
    refine lv_iconst (v := 0) hx hb dX11_rides_13 ic_0 ?_
    replace hR := Option.some.inj hR
    have e9 := hR
    exact W.zret (ty := .boolean) hx hb hr (by decide) (fun t ht hW => ⟨⟨_, (), rfl, e9, by rw [ht]; exact hP, va_K.moved hW.alike hK, hD⟩, hS.F ht⟩) hS.2.2 dX11_rides_14
  · replace hR := it_f hR c6
    refine lv_iconst (v := 1) hx hb dX11_rides_9 ic_1 ?_
    refine lv_goto (tgt := 14) hx hb dX11_rides_10 (by decide) ?_
    replace hR := Option.some.inj hR
    have e9 := hR
    exact W.zret (ty := .boolean) hx hb hr (by decide) (fun t ht hW => ⟨⟨_, (), rfl, e9, by rw [ht]; exact hP, va_K.moved hW.alike hK, hD⟩, hS.F ht⟩) hS.2.2 dX11_rides_14
