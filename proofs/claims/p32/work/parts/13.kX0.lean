set_option maxHeartbeats 8000000 in
set_option maxRecDepth 100000 in
theorem k_X1_copy (l : Launch) (dC : Nat → ClassId) (dI : Nat → Nat → Nat) (cs : Nat → ClassId) (ad : Nat → Nat) (b1 b2 : Nat) (sz : Nat) (S1 : T2) (S2 : T2) (u1 : T2) (hR : fX1_copy S1 S2 = some u1) : Met l yX1_copy wsX1_copy ({ frames := 1, cells := 0, slots := 0, locals := 30 } : Room) (va_Pc [.ref (ad b1), .ref (ad b2)] (pW dC dI (tyL cs) (fl [(w_X1 ad (b1) cs S1), (w_X1 ad (b2) cs S2)]) sz)) (QV dC dI (tyL cs) (va_A (fl [(w_X1 ad (b1) cs S1), (w_X1 ad (b2) cs S2)]) sz) (fl [(w_X1 ad (b1) cs u1), (w_X1 ad (b2) cs S2)])) 0 0 (va_A (fl [(w_X1 ad (b1) cs S1), (w_X1 ad (b2) cs S2)]) sz) := by
  refine mt_of (own := RX1) (cc := cX1_copy) (maxL := 2) (ret := none) (Qc := fun A => QV dC dI (tyL cs) A (fl [(w_X1 ad (b1) cs u1), (w_X1 ad (b2) cs S2)])) rfl (by decide) rfl (Nat.le_of_ble_eq_true rfl) (fun p e s m below meth c A ls hsz hx hb hr hts hown hlocks hml hA hK hP hD hS hl => ?_)
  subst hsz
  have hl : lv_has ls 2 [(0, .ref (ad b1)), (1, .ref (ad b2))] := hl
  have hF11 := hts (.fieldLink RX1 11 "DockedBikes$Bicycles" "where" "[I") (List.mem_of_getElem? (i := 2) rfl)
  have hF15 := hts (.fieldLink RX1 15 "DockedBikes$Bicycles" "holder" "[I") (List.mem_of_getElem? (i := 7) rfl)
  have hF18 := hts (.fieldLink RX1 18 "DockedBikes$Bicycles" "minutes" "[I") (List.mem_of_getElem? (i := 8) rfl)
  have hF21 := hts (.fieldLink RX1 21 "DockedBikes$Bicycles" "faulty" "[I") (List.mem_of_getElem? (i := 9) rfl)
  have hF24 := hts (.fieldLink RX1 24 "DockedBikes$Bicycles" "rides" "[I") (List.mem_of_getElem? (i := 10) rfl)
  have hF27 := hts (.fieldLink RX1 27 "DockedBikes$Bicycles" "ready" "[I") (List.mem_of_getElem? (i := 11) rfl)
  have hF30 := hts (.fieldLink RX1 30 "DockedBikes$Bicycles" "size" "I") (List.mem_of_getElem? (i := 1) rfl)
  have hinX1 : ∀ w ∈ wsX10, w ∈ wsX1_copy := by decide +kernel
  refine lv_aload_n hx hb dX1_copy_0 rfl (lv_at hl 0 rfl) ?_
  refine lv_aload_n hx hb dX1_copy_1 rfl (lv_at hl 1 rfl) ?_
  refine va_get (D := (dC, dI)) (ci := 0) (v := .int (S2 6 0)) (C := RX1) (T := TX1) (N := 7) hx hb hts hinX1 hown hK hP 7 rfl rfl 0 (by decide) hF30 (fun _ h9 => h9) rfl dX1_copy_2 ?_
  refine va_put (D := (dC, dI)) (ci := 0) (v := .int (S2 6 0)) (ty := .int) (C := RX1) (T := TX1) (N := 7) hx hb hts hinX1 tyX1 tyX1_ok nmX1 hown hK hP hD hS 0 rfl rfl 0 (by decide) hF30 (fun _ h9 => h9) rfl (by decide +kernel) rfl rfl (Nat.le_of_ble_eq_true rfl) dX1_copy_5 (fun H5 locs5 hP' hD' hS' => ?_)
  replace hS := hS'
  have hP' : va_P (dC, dI) vwCl (fl [(w_X1 ad (b1) cs (sU S1 6 (sU (S1 6) 0 (S2 6 0)))), (w_X1 ad (b2) cs S2)]) H5 := hP'
  have hD' : va_D A (fl [(w_X1 ad (b1) cs (sU S1 6 (sU (S1 6) 0 (S2 6 0)))), (w_X1 ad (b2) cs S2)]) := hD'
  replace hR := bn_e hR
  obtain ⟨S1_5, eS1_5, hR⟩ := hR
  replace hP : va_P (dC, dI) vwCl (fl [(w_X1 ad (b1) cs S1_5), (w_X1 ad (b2) cs S2)]) H5 := by rw [eS1_5]; exact hP'
  replace hD : va_D A (fl [(w_X1 ad (b1) cs S1_5), (w_X1 ad (b2) cs S2)]) := by rw [eS1_5]; exact hD'
  clear hP' hD' hS'
  refine lv_aload_n hx hb dX1_copy_8 rfl (lv_at hl 1 rfl) ?_
  refine va_get (D := (dC, dI)) (ci := 0) (v := .ref (ad (b2 + 1))) (C := RX1) (T := TX1) (N := 7) hx hb hts hinX1 hown hK hP 7 rfl rfl 1 (by decide) hF11 (fun _ h9 => h9) rfl dX1_copy_9 ?_
  refine lv_iconst (v := 0) hx hb dX1_copy_12 ic_0 ?_
  refine lv_aload_n hx hb dX1_copy_13 rfl (lv_at hl 0 rfl) ?_
  refine va_get (D := (dC, dI)) (ci := 0) (v := .ref (ad (b1 + 1))) (C := RX1) (T := TX1) (N := 7) hx hb hts hinX1 hown hK hP 0 rfl rfl 1 (by decide) hF11 (fun _ h9 => h9) rfl dX1_copy_14 ?_
  refine lv_iconst (v := 0) hx hb dX1_copy_17 ic_0 ?_
  refine lv_bipush (v := 16) hx hb dX1_copy_18 bp_16 ?_
  refine va_copyi hx hb (hml.trans hl.1.symm) hown (hts (.methodLink RX1 34 arraycopyName) (List.mem_of_getElem? (i := 3) rfl)) (hts (.native arraycopyName) (List.mem_of_getElem? (i := 4) rfl)) (hts (.static arraycopyName) (List.mem_of_getElem? (i := 5) rfl)) (hts (.initialized "java/lang/System") (List.mem_of_getElem? (i := 6) rfl)) hK hP hD hS 8 1 0 0 rfl rfl rfl rfl rfl (by decide) (by decide) (by decide) (by decide) (by decide) (fun _ _ => rfl) (Nat.le_of_ble_eq_true rfl) (Nat.le_of_ble_eq_true rfl) dX1_copy_20 (fun H20 locs20 hP' hD' hS' => ?_)
  replace hS := hS'
  have hP' : va_P (dC, dI) vwCl (fl [(w_X1 ad (b1) cs (sU S1_5 0 (va_cpy (S2 0) (S1_5 0) (0 : Int32).toNatClampNeg (0 : Int32).toNatClampNeg (16 : Int32).toNatClampNeg))), (w_X1 ad (b2) cs S2)]) H20 := hP'
  have hD' : va_D A (fl [(w_X1 ad (b1) cs (sU S1_5 0 (va_cpy (S2 0) (S1_5 0) (0 : Int32).toNatClampNeg (0 : Int32).toNatClampNeg (16 : Int32).toNatClampNeg))), (w_X1 ad (b2) cs S2)]) := hD'
  replace hR := bn_e hR
  obtain ⟨S1_20, eS1_20, hR⟩ := hR
  replace hP : va_P (dC, dI) vwCl (fl [(w_X1 ad (b1) cs S1_20), (w_X1 ad (b2) cs S2)]) H20 := by rw [eS1_20]; exact hP'
  replace hD : va_D A (fl [(w_X1 ad (b1) cs S1_20), (w_X1 ad (b2) cs S2)]) := by rw [eS1_20]; exact hD'
  clear hP' hD' hS'
  refine lv_aload_n hx hb dX1_copy_23 rfl (lv_at hl 1 rfl) ?_
  refine va_get (D := (dC, dI)) (ci := 0) (v := .ref (ad (b2 + 2))) (C := RX1) (T := TX1) (N := 7) hx hb hts hinX1 hown hK hP 7 rfl rfl 2 (by decide) hF15 (fun _ h9 => h9) rfl dX1_copy_24 ?_
  refine lv_iconst (v := 0) hx hb dX1_copy_27 ic_0 ?_
  refine lv_aload_n hx hb dX1_copy_28 rfl (lv_at hl 0 rfl) ?_
  refine va_get (D := (dC, dI)) (ci := 0) (v := .ref (ad (b1 + 2))) (C := RX1) (T := TX1) (N := 7) hx hb hts hinX1 hown hK hP 0 rfl rfl 2 (by decide) hF15 (fun _ h9 => h9) rfl dX1_copy_29 ?_
  refine lv_iconst (v := 0) hx hb dX1_copy_32 ic_0 ?_
  refine lv_bipush (v := 16) hx hb dX1_copy_33 bp_16 ?_
  refine va_copyi hx hb (hml.trans hl.1.symm) hown (hts (.methodLink RX1 34 arraycopyName) (List.mem_of_getElem? (i := 3) rfl)) (hts (.native arraycopyName) (List.mem_of_getElem? (i := 4) rfl)) (hts (.static arraycopyName) (List.mem_of_getElem? (i := 5) rfl)) (hts (.initialized "java/lang/System") (List.mem_of_getElem? (i := 6) rfl)) hK hP hD hS 9 2 0 0 rfl rfl rfl rfl rfl (by decide) (by decide) (by decide) (by decide) (by decide) (fun _ _ => rfl) (Nat.le_of_ble_eq_true rfl) (Nat.le_of_ble_eq_true rfl) dX1_copy_35 (fun H35 locs35 hP' hD' hS' => ?_)
  replace hS := hS'
  have hP' : va_P (dC, dI) vwCl (fl [(w_X1 ad (b1) cs (sU S1_20 1 (va_cpy (S2 1) (S1_20 1) (0 : Int32).toNatClampNeg (0 : Int32).toNatClampNeg (16 : Int32).toNatClampNeg))), (w_X1 ad (b2) cs S2)]) H35 := hP'
  have hD' : va_D A (fl [(w_X1 ad (b1) cs (sU S1_20 1 (va_cpy (S2 1) (S1_20 1) (0 : Int32).toNatClampNeg (0 : Int32).toNatClampNeg (16 : Int32).toNatClampNeg))), (w_X1 ad (b2) cs S2)]) := hD'
  replace hR := bn_e hR
  obtain ⟨S1_35, eS1_35, hR⟩ := hR
  replace hP : va_P (dC, dI) vwCl (fl [(w_X1 ad (b1) cs S1_35), (w_X1 ad (b2) cs S2)]) H35 := by rw [eS1_35]; exact hP'
  replace hD : va_D A (fl [(w_X1 ad (b1) cs S1_35), (w_X1 ad (b2) cs S2)]) := by rw [eS1_35]; exact hD'
  clear hP' hD' hS'
  refine lv_aload_n hx hb dX1_copy_38 rfl (lv_at hl 1 rfl) ?_
  refine va_get (D := (dC, dI)) (ci := 0) (v := .ref (ad (b2 + 3))) (C := RX1) (T := TX1) (N := 7) hx hb hts hinX1 hown hK hP 7 rfl rfl 3 (by decide) hF18 (fun _ h9 => h9) rfl dX1_copy_39 ?_
  refine lv_iconst (v := 0) hx hb dX1_copy_42 ic_0 ?_
  refine lv_aload_n hx hb dX1_copy_43 rfl (lv_at hl 0 rfl) ?_
  refine va_get (D := (dC, dI)) (ci := 0) (v := .ref (ad (b1 + 3))) (C := RX1) (T := TX1) (N := 7) hx hb hts hinX1 hown hK hP 0 rfl rfl 3 (by decide) hF18 (fun _ h9 => h9) rfl dX1_copy_44 ?_
  refine lv_iconst (v := 0) hx hb dX1_copy_47 ic_0 ?_
  refine lv_bipush (v := 16) hx hb dX1_copy_48 bp_16 ?_
  refine va_copyi hx hb (hml.trans hl.1.symm) hown (hts (.methodLink RX1 34 arraycopyName) (List.mem_of_getElem? (i := 3) rfl)) (hts (.native arraycopyName) (List.mem_of_getElem? (i := 4) rfl)) (hts (.static arraycopyName) (List.mem_of_getElem? (i := 5) rfl)) (hts (.initialized "java/lang/System") (List.mem_of_getElem? (i := 6) rfl)) hK hP hD hS 10 3 0 0 rfl rfl rfl rfl rfl (by decide) (by decide) (by decide) (by decide) (by decide) (fun _ _ => rfl) (Nat.le_of_ble_eq_true rfl) (Nat.le_of_ble_eq_true rfl) dX1_copy_50 (fun H50 locs50 hP' hD' hS' => ?_)
  replace hS := hS'
  have hP' : va_P (dC, dI) vwCl (fl [(w_X1 ad (b1) cs (sU S1_35 2 (va_cpy (S2 2) (S1_35 2) (0 : Int32).toNatClampNeg (0 : Int32).toNatClampNeg (16 : Int32).toNatClampNeg))), (w_X1 ad (b2) cs S2)]) H50 := hP'
  have hD' : va_D A (fl [(w_X1 ad (b1) cs (sU S1_35 2 (va_cpy (S2 2) (S1_35 2) (0 : Int32).toNatClampNeg (0 : Int32).toNatClampNeg (16 : Int32).toNatClampNeg))), (w_X1 ad (b2) cs S2)]) := hD'
  replace hR := bn_e hR
  obtain ⟨S1_50, eS1_50, hR⟩ := hR
  replace hP : va_P (dC, dI) vwCl (fl [(w_X1 ad (b1) cs S1_50), (w_X1 ad (b2) cs S2)]) H50 := by rw [eS1_50]; exact hP'
  replace hD : va_D A (fl [(w_X1 ad (b1) cs S1_50), (w_X1 ad (b2) cs S2)]) := by rw [eS1_50]; exact hD'
  clear hP' hD' hS'
  refine lv_aload_n hx hb dX1_copy_53 rfl (lv_at hl 1 rfl) ?_
  refine va_get (D := (dC, dI)) (ci := 0) (v := .ref (ad (b2 + 4))) (C := RX1) (T := TX1) (N := 7) hx hb hts hinX1 hown hK hP 7 rfl rfl 4 (by decide) hF21 (fun _ h9 => h9) rfl dX1_copy_54 ?_
  refine lv_iconst (v := 0) hx hb dX1_copy_57 ic_0 ?_
  refine lv_aload_n hx hb dX1_copy_58 rfl (lv_at hl 0 rfl) ?_
  refine va_get (D := (dC, dI)) (ci := 0) (v := .ref (ad (b1 + 4))) (C := RX1) (T := TX1) (N := 7) hx hb hts hinX1 hown hK hP 0 rfl rfl 4 (by decide) hF21 (fun _ h9 => h9) rfl dX1_copy_59 ?_
  refine lv_iconst (v := 0) hx hb dX1_copy_62 ic_0 ?_
  refine lv_bipush (v := 16) hx hb dX1_copy_63 bp_16 ?_
  refine va_copyi hx hb (hml.trans hl.1.symm) hown (hts (.methodLink RX1 34 arraycopyName) (List.mem_of_getElem? (i := 3) rfl)) (hts (.native arraycopyName) (List.mem_of_getElem? (i := 4) rfl)) (hts (.static arraycopyName) (List.mem_of_getElem? (i := 5) rfl)) (hts (.initialized "java/lang/System") (List.mem_of_getElem? (i := 6) rfl)) hK hP hD hS 11 4 0 0 rfl rfl rfl rfl rfl (by decide) (by decide) (by decide) (by decide) (by decide) (fun _ _ => rfl) (Nat.le_of_ble_eq_true rfl) (Nat.le_of_ble_eq_true rfl) dX1_copy_65 (fun H65 locs65 hP' hD' hS' => ?_)
  replace hS := hS'
  have hP' : va_P (dC, dI) vwCl (fl [(w_X1 ad (b1) cs (sU S1_50 3 (va_cpy (S2 3) (S1_50 3) (0 : Int32).toNatClampNeg (0 : Int32).toNatClampNeg (16 : Int32).toNatClampNeg))), (w_X1 ad (b2) cs S2)]) H65 := hP'
  have hD' : va_D A (fl [(w_X1 ad (b1) cs (sU S1_50 3 (va_cpy (S2 3) (S1_50 3) (0 : Int32).toNatClampNeg (0 : Int32).toNatClampNeg (16 : Int32).toNatClampNeg))), (w_X1 ad (b2) cs S2)]) := hD'
  replace hR := bn_e hR
  obtain ⟨S1_65, eS1_65, hR⟩ := hR
  replace hP : va_P (dC, dI) vwCl (fl [(w_X1 ad (b1) cs S1_65), (w_X1 ad (b2) cs S2)]) H65 := by rw [eS1_65]; exact hP'
  replace hD : va_D A (fl [(w_X1 ad (b1) cs S1_65), (w_X1 ad (b2) cs S2)]) := by rw [eS1_65]; exact hD'
  clear hP' hD' hS'
  refine lv_aload_n hx hb dX1_copy_68 rfl (lv_at hl 1 rfl) ?_
  refine va_get (D := (dC, dI)) (ci := 0) (v := .ref (ad (b2 + 5))) (C := RX1) (T := TX1) (N := 7) hx hb hts hinX1 hown hK hP 7 rfl rfl 5 (by decide) hF24 (fun _ h9 => h9) rfl dX1_copy_69 ?_
  refine lv_iconst (v := 0) hx hb dX1_copy_72 ic_0 ?_
  refine lv_aload_n hx hb dX1_copy_73 rfl (lv_at hl 0 rfl) ?_
  refine va_get (D := (dC, dI)) (ci := 0) (v := .ref (ad (b1 + 5))) (C := RX1) (T := TX1) (N := 7) hx hb hts hinX1 hown hK hP 0 rfl rfl 5 (by decide) hF24 (fun _ h9 => h9) rfl dX1_copy_74 ?_
  refine lv_iconst (v := 0) hx hb dX1_copy_77 ic_0 ?_
  refine lv_bipush (v := 16) hx hb dX1_copy_78 bp_16 ?_
  refine va_copyi hx hb (hml.trans hl.1.symm) hown (hts (.methodLink RX1 34 arraycopyName) (List.mem_of_getElem? (i := 3) rfl)) (hts (.native arraycopyName) (List.mem_of_getElem? (i := 4) rfl)) (hts (.static arraycopyName) (List.mem_of_getElem? (i := 5) rfl)) (hts (.initialized "java/lang/System") (List.mem_of_getElem? (i := 6) rfl)) hK hP hD hS 12 5 0 0 rfl rfl rfl rfl rfl (by decide) (by decide) (by decide) (by decide) (by decide) (fun _ _ => rfl) (Nat.le_of_ble_eq_true rfl) (Nat.le_of_ble_eq_true rfl) dX1_copy_80 (fun H80 locs80 hP' hD' hS' => ?_)
  replace hS := hS'
  have hP' : va_P (dC, dI) vwCl (fl [(w_X1 ad (b1) cs (sU S1_65 4 (va_cpy (S2 4) (S1_65 4) (0 : Int32).toNatClampNeg (0 : Int32).toNatClampNeg (16 : Int32).toNatClampNeg))), (w_X1 ad (b2) cs S2)]) H80 := hP'
  have hD' : va_D A (fl [(w_X1 ad (b1) cs (sU S1_65 4 (va_cpy (S2 4) (S1_65 4) (0 : Int32).toNatClampNeg (0 : Int32).toNatClampNeg (16 : Int32).toNatClampNeg))), (w_X1 ad (b2) cs S2)]) := hD'
  replace hR := bn_e hR
  obtain ⟨S1_80, eS1_80, hR⟩ := hR
  replace hP : va_P (dC, dI) vwCl (fl [(w_X1 ad (b1) cs S1_80), (w_X1 ad (b2) cs S2)]) H80 := by rw [eS1_80]; exact hP'
  replace hD : va_D A (fl [(w_X1 ad (b1) cs S1_80), (w_X1 ad (b2) cs S2)]) := by rw [eS1_80]; exact hD'
  clear hP' hD' hS'
  refine lv_aload_n hx hb dX1_copy_83 rfl (lv_at hl 1 rfl) ?_
  refine va_get (D := (dC, dI)) (ci := 0) (v := .ref (ad (b2 + 6))) (C := RX1) (T := TX1) (N := 7) hx hb hts hinX1 hown hK hP 7 rfl rfl 6 (by decide) hF27 (fun _ h9 => h9) rfl dX1_copy_84 ?_
  refine lv_iconst (v := 0) hx hb dX1_copy_87 ic_0 ?_
  refine lv_aload_n hx hb dX1_copy_88 rfl (lv_at hl 0 rfl) ?_
  refine va_get (D := (dC, dI)) (ci := 0) (v := .ref (ad (b1 + 6))) (C := RX1) (T := TX1) (N := 7) hx hb hts hinX1 hown hK hP 0 rfl rfl 6 (by decide) hF27 (fun _ h9 => h9) rfl dX1_copy_89 ?_
  refine lv_iconst (v := 0) hx hb dX1_copy_92 ic_0 ?_
  refine lv_bipush (v := 16) hx hb dX1_copy_93 bp_16 ?_
  refine va_copyi hx hb (hml.trans hl.1.symm) hown (hts (.methodLink RX1 34 arraycopyName) (List.mem_of_getElem? (i := 3) rfl)) (hts (.native arraycopyName) (List.mem_of_getElem? (i := 4) rfl)) (hts (.static arraycopyName) (List.mem_of_getElem? (i := 5) rfl)) (hts (.initialized "java/lang/System") (List.mem_of_getElem? (i := 6) rfl)) hK hP hD hS 13 6 0 0 rfl rfl rfl rfl rfl (by decide) (by decide) (by decide) (by decide) (by decide) (fun _ _ => rfl) (Nat.le_of_ble_eq_true rfl) (Nat.le_of_ble_eq_true rfl) dX1_copy_95 (fun H95 locs95 hP' hD' hS' => ?_)
  replace hS := hS'
  have hP' : va_P (dC, dI) vwCl (fl [(w_X1 ad (b1) cs (sU S1_80 5 (va_cpy (S2 5) (S1_80 5) (0 : Int32).toNatClampNeg (0 : Int32).toNatClampNeg (16 : Int32).toNatClampNeg))), (w_X1 ad (b2) cs S2)]) H95 := hP'
  have hD' : va_D A (fl [(w_X1 ad (b1) cs (sU S1_80 5 (va_cpy (S2 5) (S1_80 5) (0 : Int32).toNatClampNeg (0 : Int32).toNatClampNeg (16 : Int32).toNatClampNeg))), (w_X1 ad (b2) cs S2)]) := hD'
  replace hR := bn_e hR
  obtain ⟨S1_95, eS1_95, hR⟩ := hR
  replace hP : va_P (dC, dI) vwCl (fl [(w_X1 ad (b1) cs S1_95), (w_X1 ad (b2) cs S2)]) H95 := by rw [eS1_95]; exact hP'
  replace hD : va_D A (fl [(w_X1 ad (b1) cs S1_95), (w_X1 ad (b2) cs S2)]) := by rw [eS1_95]; exact hD'
  clear hP' hD' hS'
  replace hR := Option.some.inj hR
  have eu1 := hR
  replace hP : va_P (dC, dI) vwCl (fl [(w_X1 ad (b1) cs u1), (w_X1 ad (b2) cs S2)]) H95 := by rw [← eu1]; exact hP
  replace hD : va_D A (fl [(w_X1 ad (b1) cs u1), (w_X1 ad (b2) cs S2)]) := by rw [← eu1]; exact hD
  exact W.vret hx hb hr (fun t ht hW => ⟨⟨(), rfl, trivial, by rw [ht]; exact hP, va_K.moved hW.alike hK, hD⟩, hS.F ht⟩) hS.2.2 dX1_copy_98
set_option maxHeartbeats 8000000 in
set_option maxRecDepth 100000 in
theorem k_X1_has (l : Launch) (dC : Nat → ClassId) (dI : Nat → Nat → Nat) (cs : Nat → ClassId) (ad : Nat → Nat) (b1 : Nat) (sz : Nat) (S1 : T2) (p1 : Int32) (r : Int32) (hR : fX1_has S1 p1 = some r) : Met l yX1_has wsX1_has ({ frames := 0, cells := 0, slots := 0, locals := 0 } : Room) (va_Pc [.ref (ad b1), .int p1] (pW dC dI (tyL cs) (fl [(w_X1 ad (b1) cs S1)]) sz)) (QI dC dI (tyL cs) (va_A (fl [(w_X1 ad (b1) cs S1)]) sz) (fl [(w_X1 ad (b1) cs S1)]) r) 0 0 (va_A (fl [(w_X1 ad (b1) cs S1)]) sz) := by
  refine mt_of (own := RX1) (cc := cX1_has) (maxL := 2) (ret := (some .boolean)) (Qc := fun A => QI dC dI (tyL cs) A (fl [(w_X1 ad (b1) cs S1)]) r) rfl (by decide) rfl (Nat.le_of_ble_eq_true rfl) (fun p e s m below meth c A ls hsz hx hb hr hts hown hlocks hml hA hK hP hD hS hl => ?_)
  subst hsz
  have hl : lv_has ls 2 [(0, .ref (ad b1)), (1, .int p1)] := hl
  have hF30 := hts (.fieldLink RX1 30 "DockedBikes$Bicycles" "size" "I") (List.mem_of_getElem? (i := 1) rfl)
  have hinX1 : ∀ w ∈ wsX10, w ∈ wsX1_has := by decide +kernel
  refine lv_iload_n hx hb dX1_has_0 rfl (lv_at hl 1 rfl) ?_
  refine lv_if_lt (tgt := 16) hx hb dX1_has_1 (by decide) (fun c1 => ?_) (fun c1 => ?_)
  · replace hR := it_t hR c1
    refine lv_iconst (v := 0) hx hb dX1_has_16 ic_0 ?_
    replace hR := Option.some.inj hR
    have e9 := hR
    exact W.zret (ty := .boolean) hx hb hr (by decide) (fun t ht hW => ⟨⟨_, (), rfl, e9, by rw [ht]; exact hP, va_K.moved hW.alike hK, hD⟩, hS.F ht⟩) hS.2.2 dX1_has_17
  · replace hR := it_f hR c1
    refine lv_iload_n hx hb dX1_has_4 rfl (lv_at hl 1 rfl) ?_
    refine lv_aload_n hx hb dX1_has_5 rfl (lv_at hl 0 rfl) ?_
    refine va_get (D := (dC, dI)) (ci := 0) (v := .int (S1 6 0)) (C := RX1) (T := TX1) (N := 7) hx hb hts hinX1 hown hK hP 0 rfl rfl 0 (by decide) hF30 (fun _ h9 => h9) rfl dX1_has_6 ?_
    refine lv_icmp_ge (tgt := 16) hx hb dX1_has_9 (by decide) (fun c9 => ?_) (fun c9 => ?_)
    · replace hR := it_t hR c9
      refine lv_iconst (v := 0) hx hb dX1_has_16 ic_0 ?_
      replace hR := Option.some.inj hR
      have e9 := hR
      exact W.zret (ty := .boolean) hx hb hr (by decide) (fun t ht hW => ⟨⟨_, (), rfl, e9, by rw [ht]; exact hP, va_K.moved hW.alike hK, hD⟩, hS.F ht⟩) hS.2.2 dX1_has_17
    · replace hR := it_f hR c9
      refine lv_iconst (v := 1) hx hb dX1_has_12 ic_1 ?_
      refine lv_goto (tgt := 17) hx hb dX1_has_13 (by decide) ?_
      replace hR := Option.some.inj hR
      have e9 := hR
      exact W.zret (ty := .boolean) hx hb hr (by decide) (fun t ht hW => ⟨⟨_, (), rfl, e9, by rw [ht]; exact hP, va_K.moved hW.alike hK, hD⟩, hS.F ht⟩) hS.2.2 dX1_has_17
set_option maxHeartbeats 8000000 in
set_option maxRecDepth 100000 in
theorem k_X1_add (l : Launch) (dC : Nat → ClassId) (dI : Nat → Nat → Nat) (cs : Nat → ClassId) (ad : Nat → Nat) (b1 : Nat) (sz : Nat) (S1 : T2) (p1 : Int32) (r : Int32) (u1 : T2) (hR : fX1_add S1 p1 = some (r, u1)) : Met l yX1_add wsX1_add ({ frames := 0, cells := 0, slots := 0, locals := 0 } : Room) (va_Pc [.ref (ad b1), .int p1] (pW dC dI (tyL cs) (fl [(w_X1 ad (b1) cs S1)]) sz)) (QI dC dI (tyL cs) (va_A (fl [(w_X1 ad (b1) cs S1)]) sz) (fl [(w_X1 ad (b1) cs u1)]) r) 0 0 (va_A (fl [(w_X1 ad (b1) cs S1)]) sz) := by
  refine mt_of (own := RX1) (cc := cX1_add) (maxL := 2) (ret := (some .int)) (Qc := fun A => QI dC dI (tyL cs) A (fl [(w_X1 ad (b1) cs u1)]) r) rfl (by decide) rfl (Nat.le_of_ble_eq_true rfl) (fun p e s m below meth c A ls hsz hx hb hr hts hown hlocks hml hA hK hP hD hS hl => ?_)
  subst hsz
  have hl : lv_has ls 2 [(0, .ref (ad b1)), (1, .int p1)] := hl
  have hF11 := hts (.fieldLink RX1 11 "DockedBikes$Bicycles" "where" "[I") (List.mem_of_getElem? (i := 2) rfl)
  have hF15 := hts (.fieldLink RX1 15 "DockedBikes$Bicycles" "holder" "[I") (List.mem_of_getElem? (i := 3) rfl)
  have hF30 := hts (.fieldLink RX1 30 "DockedBikes$Bicycles" "size" "I") (List.mem_of_getElem? (i := 1) rfl)
  have hinX1 : ∀ w ∈ wsX10, w ∈ wsX1_add := by decide +kernel
  refine lv_aload_n hx hb dX1_add_0 rfl (lv_at hl 0 rfl) ?_
  refine va_get (D := (dC, dI)) (ci := 0) (v := .int (S1 6 0)) (C := RX1) (T := TX1) (N := 7) hx hb hts hinX1 hown hK hP 0 rfl rfl 0 (by decide) hF30 (fun _ h9 => h9) rfl dX1_add_1 ?_
  refine lv_bipush (v := 16) hx hb dX1_add_4 bp_16 ?_
  refine lv_icmp_lt (tgt := 12) hx hb dX1_add_6 (by decide) (fun c6 => ?_) (fun c6 => ?_)
  · replace hR := it_t hR c6
    refine lv_aload_n hx hb dX1_add_12 rfl (lv_at hl 0 rfl) ?_
    refine va_get (D := (dC, dI)) (ci := 0) (v := .ref (ad (b1 + 1))) (C := RX1) (T := TX1) (N := 7) hx hb hts hinX1 hown hK hP 0 rfl rfl 1 (by decide) hF11 (fun _ h9 => h9) rfl dX1_add_13 ?_
    refine lv_aload_n hx hb dX1_add_16 rfl (lv_at hl 0 rfl) ?_
    refine va_get (D := (dC, dI)) (ci := 0) (v := .int (S1 6 0)) (C := RX1) (T := TX1) (N := 7) hx hb hts hinX1 hown hK hP 0 rfl rfl 0 (by decide) hF30 (fun _ h9 => h9) rfl dX1_add_17 ?_
    refine lv_iconst (v := 0) hx hb dX1_add_20 ic_0 ?_
    replace hR := gi_e hR
    obtain ⟨i21, hR⟩ := hR
    refine va_iast hx hb hK hP hD hS 1 0 rfl rfl i21 dX1_add_21 (fun H21 locs21 hP' hD' hS' => ?_)
    replace hS := hS'
    have hP' : va_P (dC, dI) vwCl (fl [(w_X1 ad (b1) cs (sU S1 0 (sU (S1 0) (S1 6 0).toNatClampNeg (0 : Int32))))]) H21 := hP'
    have hD' : va_D A (fl [(w_X1 ad (b1) cs (sU S1 0 (sU (S1 0) (S1 6 0).toNatClampNeg (0 : Int32))))]) := hD'
    replace hR := bn_e hR
    obtain ⟨S1_21, eS1_21, hR⟩ := hR
    replace hP : va_P (dC, dI) vwCl (fl [(w_X1 ad (b1) cs S1_21)]) H21 := by rw [eS1_21]; exact hP'
    replace hD : va_D A (fl [(w_X1 ad (b1) cs S1_21)]) := by rw [eS1_21]; exact hD'
    clear hP' hD' hS'
    refine lv_aload_n hx hb dX1_add_22 rfl (lv_at hl 0 rfl) ?_
    refine va_get (D := (dC, dI)) (ci := 0) (v := .ref (ad (b1 + 2))) (C := RX1) (T := TX1) (N := 7) hx hb hts hinX1 hown hK hP 0 rfl rfl 2 (by decide) hF15 (fun _ h9 => h9) rfl dX1_add_23 ?_
    refine lv_aload_n hx hb dX1_add_26 rfl (lv_at hl 0 rfl) ?_
    refine va_get (D := (dC, dI)) (ci := 0) (v := .int (S1_21 6 0)) (C := RX1) (T := TX1) (N := 7) hx hb hts hinX1 hown hK hP 0 rfl rfl 0 (by decide) hF30 (fun _ h9 => h9) rfl dX1_add_27 ?_
    refine lv_iload_n hx hb dX1_add_30 rfl (lv_at hl 1 rfl) ?_
    replace hR := gi_e hR
    obtain ⟨i31, hR⟩ := hR
    refine va_iast hx hb hK hP hD hS 2 0 rfl rfl i31 dX1_add_31 (fun H31 locs31 hP' hD' hS' => ?_)
    replace hS := hS'
    have hP' : va_P (dC, dI) vwCl (fl [(w_X1 ad (b1) cs (sU S1_21 1 (sU (S1_21 1) (S1_21 6 0).toNatClampNeg p1)))]) H31 := hP'
    have hD' : va_D A (fl [(w_X1 ad (b1) cs (sU S1_21 1 (sU (S1_21 1) (S1_21 6 0).toNatClampNeg p1)))]) := hD'
    replace hR := bn_e hR
    obtain ⟨S1_31, eS1_31, hR⟩ := hR
    replace hP : va_P (dC, dI) vwCl (fl [(w_X1 ad (b1) cs S1_31)]) H31 := by rw [eS1_31]; exact hP'
    replace hD : va_D A (fl [(w_X1 ad (b1) cs S1_31)]) := by rw [eS1_31]; exact hD'
    clear hP' hD' hS'
    refine lv_aload_n hx hb dX1_add_32 rfl (lv_at hl 0 rfl) ?_
    refine lv_dup hx hb dX1_add_33 rfl ?_
    refine va_get (D := (dC, dI)) (ci := 0) (v := .int (S1_31 6 0)) (C := RX1) (T := TX1) (N := 7) hx hb hts hinX1 hown hK hP 0 rfl rfl 0 (by decide) hF30 (fun _ h9 => h9) rfl dX1_add_34 ?_
    refine lv_iconst (v := 1) hx hb dX1_add_37 ic_1 ?_
    refine lv_iadd hx hb dX1_add_38 ?_
    refine va_put (D := (dC, dI)) (ci := 0) (v := .int ((S1_31 6 0) + 1)) (ty := .int) (C := RX1) (T := TX1) (N := 7) hx hb hts hinX1 tyX1 tyX1_ok nmX1 hown hK hP hD hS 0 rfl rfl 0 (by decide) hF30 (fun _ h9 => h9) rfl (by decide +kernel) rfl rfl (Nat.le_of_ble_eq_true rfl) dX1_add_39 (fun H39 locs39 hP' hD' hS' => ?_)
    replace hS := hS'
    have hP' : va_P (dC, dI) vwCl (fl [(w_X1 ad (b1) cs (sU S1_31 6 (sU (S1_31 6) 0 ((S1_31 6 0) + 1))))]) H39 := hP'
    have hD' : va_D A (fl [(w_X1 ad (b1) cs (sU S1_31 6 (sU (S1_31 6) 0 ((S1_31 6 0) + 1))))]) := hD'
    replace hR := bn_e hR
    obtain ⟨S1_39, eS1_39, hR⟩ := hR
    replace hP : va_P (dC, dI) vwCl (fl [(w_X1 ad (b1) cs S1_39)]) H39 := by rw [eS1_39]; exact hP'
    replace hD : va_D A (fl [(w_X1 ad (b1) cs S1_39)]) := by rw [eS1_39]; exact hD'
    clear hP' hD' hS'
    refine lv_aload_n hx hb dX1_add_42 rfl (lv_at hl 0 rfl) ?_
    refine va_get (D := (dC, dI)) (ci := 0) (v := .int (S1_39 6 0)) (C := RX1) (T := TX1) (N := 7) hx hb hts hinX1 hown hK hP 0 rfl rfl 0 (by decide) hF30 (fun _ h9 => h9) rfl dX1_add_43 ?_
    refine lv_iconst (v := 1) hx hb dX1_add_46 ic_1 ?_
    refine lv_isub hx hb dX1_add_47 ?_
    replace hR := Option.some.inj hR
    obtain ⟨e9, hR⟩ := Prod.mk.inj hR
    have eu1 := hR
    replace hP : va_P (dC, dI) vwCl (fl [(w_X1 ad (b1) cs u1)]) H39 := by rw [← eu1]; exact hP
    replace hD : va_D A (fl [(w_X1 ad (b1) cs u1)]) := by rw [← eu1]; exact hD
    exact W.iret hx hb hr (fun t ht hW => ⟨⟨_, (), rfl, e9, by rw [ht]; exact hP, va_K.moved hW.alike hK, hD⟩, hS.F ht⟩) hS.2.2 dX1_add_48
  · replace hR := it_f hR c6
    refine lv_bipush (v := (-3)) hx hb dX1_add_9 bp_m3 ?_
    replace hR := Option.some.inj hR
    obtain ⟨e9, hR⟩ := Prod.mk.inj hR
    have eu1 := hR
    replace hP : va_P (dC, dI) vwCl (fl [(w_X1 ad (b1) cs u1)]) s.heap := by rw [← eu1]; exact hP
    replace hD : va_D A (fl [(w_X1 ad (b1) cs u1)]) := by rw [← eu1]; exact hD
    exact W.iret hx hb hr (fun t ht hW => ⟨⟨_, (), rfl, e9, by rw [ht]; exact hP, va_K.moved hW.alike hK, hD⟩, hS.F ht⟩) hS.2.2 dX1_add_11
set_option maxHeartbeats 8000000 in
set_option maxRecDepth 100000 in
theorem k_X1_isAt (l : Launch) (dC : Nat → ClassId) (dI : Nat → Nat → Nat) (cs : Nat → ClassId) (ad : Nat → Nat) (b1 : Nat) (sz : Nat) (S1 : T2) (p1 : Int32) (p2 : Int32) (p3 : Int32) (r : Int32) (hR : fX1_isAt S1 p1 p2 p3 = some r) : Met l yX1_isAt wsX1_isAt ({ frames := 1, cells := 0, slots := 0, locals := 21 } : Room) (va_Pc [.ref (ad b1), .int p1, .int p2, .int p3] (pW dC dI (tyL cs) (fl [(w_X1 ad (b1) cs S1)]) sz)) (QI dC dI (tyL cs) (va_A (fl [(w_X1 ad (b1) cs S1)]) sz) (fl [(w_X1 ad (b1) cs S1)]) r) 0 0 (va_A (fl [(w_X1 ad (b1) cs S1)]) sz) := by
  refine mt_of (own := RX1) (cc := cX1_isAt) (maxL := 4) (ret := (some .boolean)) (Qc := fun A => QI dC dI (tyL cs) A (fl [(w_X1 ad (b1) cs S1)]) r) rfl (by decide) rfl (Nat.le_of_ble_eq_true rfl) (fun p e s m below meth c A ls hsz hx hb hr hts hown hlocks hml hA hK hP hD hS hl => ?_)
  subst hsz
  have hl : lv_has ls 4 [(0, .ref (ad b1)), (1, .int p1), (2, .int p2), (3, .int p3)] := hl
  have hF11 := hts (.fieldLink RX1 11 "DockedBikes$Bicycles" "where" "[I") (List.mem_of_getElem? (i := 1) rfl)
  have hF15 := hts (.fieldLink RX1 15 "DockedBikes$Bicycles" "holder" "[I") (List.mem_of_getElem? (i := 2) rfl)
  have hinX1 : ∀ w ∈ wsX10, w ∈ wsX1_isAt := by decide +kernel
  refine lv_aload_n hx hb dX1_isAt_0 rfl (lv_at hl 0 rfl) ?_
  refine lv_iload_n hx hb dX1_isAt_1 rfl (lv_at hl 1 rfl) ?_
  replace hR := bd_e hR
  obtain ⟨q2, gq2, hR⟩ := hR
  refine cl_Vi (As := [.int p1]) (rest := []) (L := [(w_X1 ad (b1) cs S1)]) (L' := [(w_X1 ad (b1) cs S1)]) (Wc := [(w_X1 ad (b1) cs S1)]) (Wc' := [(w_X1 ad (b1) cs S1)]) (is := [0]) (js := []) ⟨hx, hb, hml, hown, hts⟩ (k_X1_has l dC dI cs ad (b1) s.heap.size S1 p1 q2 gq2) (cwV 1 hts gX1_isAt_X1_has rfl rfl rfl cd_X1_has ⟨Nat.le_of_ble_eq_true rfl, Nat.le_of_ble_eq_true rfl⟩) hK hP hD hS hA ⟨rfl, rfl, rfl, rfl, rfl, rfl⟩ (jn_nd (is := [0]) hD rfl rfl) 0 0 rfl rfl rfl rfl rfl hl.1 (Nat.le_of_ble_eq_true rfl) dX1_isAt_2 (fun H2 locs2 hP' hD' hS' => ?_)
  replace hS := hS'
  replace hP : va_P (dC, dI) vwCl (fl [(w_X1 ad (b1) cs S1)]) H2 := hP'
  replace hD : va_D A (fl [(w_X1 ad (b1) cs S1)]) := hD'
  clear hP' hD' hS'
  refine lv_if_eq (tgt := 32) hx hb dX1_isAt_5 (by decide) (fun c5 => ?_) (fun c5 => ?_)
  · replace hR := it_t hR c5
    refine lv_iconst (v := 0) hx hb dX1_isAt_32 ic_0 ?_
    replace hR := Option.some.inj hR
    have e9 := hR
    exact W.zret (ty := .boolean) hx hb hr (by decide) (fun t ht hW => ⟨⟨_, (), rfl, e9, by rw [ht]; exact hP, va_K.moved hW.alike hK, hD⟩, hS.F ht⟩) hS.2.2 dX1_isAt_33
  · replace hR := it_f hR c5
    refine lv_aload_n hx hb dX1_isAt_8 rfl (lv_at hl 0 rfl) ?_
    refine va_get (D := (dC, dI)) (ci := 0) (v := .ref (ad (b1 + 1))) (C := RX1) (T := TX1) (N := 7) hx hb hts hinX1 hown hK hP 0 rfl rfl 1 (by decide) hF11 (fun _ h9 => h9) rfl dX1_isAt_9 ?_
    refine lv_iload_n hx hb dX1_isAt_12 rfl (lv_at hl 1 rfl) ?_
    replace hR := gi_e hR
    obtain ⟨i13, hR⟩ := hR
    refine va_iald hx hb hK hP 1 0 rfl rfl i13 dX1_isAt_13 ?_
    refine lv_iload_n hx hb dX1_isAt_14 rfl (lv_at hl 2 rfl) ?_
    refine lv_icmp_ne (tgt := 32) hx hb dX1_isAt_15 (by decide) (fun c15 => ?_) (fun c15 => ?_)
    · replace hR := it_f hR c15
      refine lv_iconst (v := 0) hx hb dX1_isAt_32 ic_0 ?_
      replace hR := Option.some.inj hR
      have e9 := hR
      exact W.zret (ty := .boolean) hx hb hr (by decide) (fun t ht hW => ⟨⟨_, (), rfl, e9, by rw [ht]; exact hP, va_K.moved hW.alike hK, hD⟩, hS.F ht⟩) hS.2.2 dX1_isAt_33
    · replace hR := it_t hR c15
      refine lv_aload_n hx hb dX1_isAt_18 rfl (lv_at hl 0 rfl) ?_
      refine va_get (D := (dC, dI)) (ci := 0) (v := .ref (ad (b1 + 2))) (C := RX1) (T := TX1) (N := 7) hx hb hts hinX1 hown hK hP 0 rfl rfl 2 (by decide) hF15 (fun _ h9 => h9) rfl dX1_isAt_19 ?_
      refine lv_iload_n hx hb dX1_isAt_22 rfl (lv_at hl 1 rfl) ?_
      replace hR := gi_e hR
      obtain ⟨i23, hR⟩ := hR
      refine va_iald hx hb hK hP 2 0 rfl rfl i23 dX1_isAt_23 ?_
      refine lv_iload_n hx hb dX1_isAt_24 rfl (lv_at hl 3 rfl) ?_
      refine lv_icmp_ne (tgt := 32) hx hb dX1_isAt_25 (by decide) (fun c25 => ?_) (fun c25 => ?_)
      · replace hR := it_f hR c25
        refine lv_iconst (v := 0) hx hb dX1_isAt_32 ic_0 ?_
        replace hR := Option.some.inj hR
        have e9 := hR
        exact W.zret (ty := .boolean) hx hb hr (by decide) (fun t ht hW => ⟨⟨_, (), rfl, e9, by rw [ht]; exact hP, va_K.moved hW.alike hK, hD⟩, hS.F ht⟩) hS.2.2 dX1_isAt_33
      · replace hR := it_t hR c25
        refine lv_iconst (v := 1) hx hb dX1_isAt_28 ic_1 ?_
        refine lv_goto (tgt := 33) hx hb dX1_isAt_29 (by decide) ?_
        replace hR := Option.some.inj hR
        have e9 := hR
        exact W.zret (ty := .boolean) hx hb hr (by decide) (fun t ht hW => ⟨⟨_, (), rfl, e9, by rw [ht]; exact hP, va_K.moved hW.alike hK, hD⟩, hS.F ht⟩) hS.2.2 dX1_isAt_33
set_option maxHeartbeats 8000000 in
set_option maxRecDepth 100000 in
theorem k_X1_holderOrNotFound (l : Launch) (dC : Nat → ClassId) (dI : Nat → Nat → Nat) (cs : Nat → ClassId) (ad : Nat → Nat) (b1 : Nat) (sz : Nat) (S1 : T2) (p1 : Int32) (r : Int32) (hR : fX1_holderOrNotFound S1 p1 = some r) : Met l yX1_holderOrNotFound wsX1_holderOrNotFound ({ frames := 1, cells := 0, slots := 0, locals := 21 } : Room) (va_Pc [.ref (ad b1), .int p1] (pW dC dI (tyL cs) (fl [(w_X1 ad (b1) cs S1)]) sz)) (QI dC dI (tyL cs) (va_A (fl [(w_X1 ad (b1) cs S1)]) sz) (fl [(w_X1 ad (b1) cs S1)]) r) 0 0 (va_A (fl [(w_X1 ad (b1) cs S1)]) sz) := by
  refine mt_of (own := RX1) (cc := cX1_holderOrNotFound) (maxL := 2) (ret := (some .int)) (Qc := fun A => QI dC dI (tyL cs) A (fl [(w_X1 ad (b1) cs S1)]) r) rfl (by decide) rfl (Nat.le_of_ble_eq_true rfl) (fun p e s m below meth c A ls hsz hx hb hr hts hown hlocks hml hA hK hP hD hS hl => ?_)
  subst hsz
  have hl : lv_has ls 2 [(0, .ref (ad b1)), (1, .int p1)] := hl
  have hF11 := hts (.fieldLink RX1 11 "DockedBikes$Bicycles" "where" "[I") (List.mem_of_getElem? (i := 1) rfl)
  have hF15 := hts (.fieldLink RX1 15 "DockedBikes$Bicycles" "holder" "[I") (List.mem_of_getElem? (i := 2) rfl)
  have hinX1 : ∀ w ∈ wsX10, w ∈ wsX1_holderOrNotFound := by decide +kernel
  refine lv_aload_n hx hb dX1_holderOrNotFound_0 rfl (lv_at hl 0 rfl) ?_
  refine lv_iload_n hx hb dX1_holderOrNotFound_1 rfl (lv_at hl 1 rfl) ?_
  replace hR := bd_e hR
  obtain ⟨q2, gq2, hR⟩ := hR
  refine cl_Vi (As := [.int p1]) (rest := []) (L := [(w_X1 ad (b1) cs S1)]) (L' := [(w_X1 ad (b1) cs S1)]) (Wc := [(w_X1 ad (b1) cs S1)]) (Wc' := [(w_X1 ad (b1) cs S1)]) (is := [0]) (js := []) ⟨hx, hb, hml, hown, hts⟩ (k_X1_has l dC dI cs ad (b1) s.heap.size S1 p1 q2 gq2) (cwV 1 hts gX1_holderOrNotFound_X1_has rfl rfl rfl cd_X1_has ⟨Nat.le_of_ble_eq_true rfl, Nat.le_of_ble_eq_true rfl⟩) hK hP hD hS hA ⟨rfl, rfl, rfl, rfl, rfl, rfl⟩ (jn_nd (is := [0]) hD rfl rfl) 0 0 rfl rfl rfl rfl rfl hl.1 (Nat.le_of_ble_eq_true rfl) dX1_holderOrNotFound_2 (fun H2 locs2 hP' hD' hS' => ?_)
  replace hS := hS'
  replace hP : va_P (dC, dI) vwCl (fl [(w_X1 ad (b1) cs S1)]) H2 := hP'
  replace hD : va_D A (fl [(w_X1 ad (b1) cs S1)]) := hD'
  clear hP' hD' hS'
  refine lv_if_eq (tgt := 27) hx hb dX1_holderOrNotFound_5 (by decide) (fun c5 => ?_) (fun c5 => ?_)
  · replace hR := it_t hR c5
    refine lv_bipush (v := (-4)) hx hb dX1_holderOrNotFound_27 bp_m4 ?_
    replace hR := Option.some.inj hR
    have e9 := hR
    exact W.iret hx hb hr (fun t ht hW => ⟨⟨_, (), rfl, e9, by rw [ht]; exact hP, va_K.moved hW.alike hK, hD⟩, hS.F ht⟩) hS.2.2 dX1_holderOrNotFound_29
  · replace hR := it_f hR c5
    refine lv_aload_n hx hb dX1_holderOrNotFound_8 rfl (lv_at hl 0 rfl) ?_
    refine va_get (D := (dC, dI)) (ci := 0) (v := .ref (ad (b1 + 1))) (C := RX1) (T := TX1) (N := 7) hx hb hts hinX1 hown hK hP 0 rfl rfl 1 (by decide) hF11 (fun _ h9 => h9) rfl dX1_holderOrNotFound_9 ?_
    refine lv_iload_n hx hb dX1_holderOrNotFound_12 rfl (lv_at hl 1 rfl) ?_
    replace hR := gi_e hR
    obtain ⟨i13, hR⟩ := hR
    refine va_iald hx hb hK hP 1 0 rfl rfl i13 dX1_holderOrNotFound_13 ?_
    refine lv_iconst (v := 3) hx hb dX1_holderOrNotFound_14 ic_3 ?_
    refine lv_icmp_eq (tgt := 27) hx hb dX1_holderOrNotFound_15 (by decide) (fun c15 => ?_) (fun c15 => ?_)
    · replace hR := it_t hR c15
      refine lv_bipush (v := (-4)) hx hb dX1_holderOrNotFound_27 bp_m4 ?_
      replace hR := Option.some.inj hR
      have e9 := hR
      exact W.iret hx hb hr (fun t ht hW => ⟨⟨_, (), rfl, e9, by rw [ht]; exact hP, va_K.moved hW.alike hK, hD⟩, hS.F ht⟩) hS.2.2 dX1_holderOrNotFound_29
    · replace hR := it_f hR c15
      refine lv_aload_n hx hb dX1_holderOrNotFound_18 rfl (lv_at hl 0 rfl) ?_
      refine va_get (D := (dC, dI)) (ci := 0) (v := .ref (ad (b1 + 2))) (C := RX1) (T := TX1) (N := 7) hx hb hts hinX1 hown hK hP 0 rfl rfl 2 (by decide) hF15 (fun _ h9 => h9) rfl dX1_holderOrNotFound_19 ?_
      refine lv_iload_n hx hb dX1_holderOrNotFound_22 rfl (lv_at hl 1 rfl) ?_
      replace hR := gi_e hR
      obtain ⟨i23, hR⟩ := hR
      refine va_iald hx hb hK hP 2 0 rfl rfl i23 dX1_holderOrNotFound_23 ?_
      refine lv_goto (tgt := 29) hx hb dX1_holderOrNotFound_24 (by decide) ?_
      replace hR := Option.some.inj hR
      have e9 := hR
      exact W.iret hx hb hr (fun t ht hW => ⟨⟨_, (), rfl, e9, by rw [ht]; exact hP, va_K.moved hW.alike hK, hD⟩, hS.F ht⟩) hS.2.2 dX1_holderOrNotFound_29
set_option maxHeartbeats 8000000 in
set_option maxRecDepth 100000 in
theorem k_X1_bring (l : Launch) (dC : Nat → ClassId) (dI : Nat → Nat → Nat) (cs : Nat → ClassId) (ad : Nat → Nat) (b1 : Nat) (sz : Nat) (S1 : T2) (p1 : Int32) (p2 : Int32) (p3 : Int32) (u1 : T2) (hR : fX1_bring S1 p1 p2 p3 = some u1) : Met l yX1_bring wsX1_bring ({ frames := 1, cells := 0, slots := 0, locals := 21 } : Room) (va_Pc [.ref (ad b1), .int p1, .int p2, .int p3] (pW dC dI (tyL cs) (fl [(w_X1 ad (b1) cs S1)]) sz)) (QV dC dI (tyL cs) (va_A (fl [(w_X1 ad (b1) cs S1)]) sz) (fl [(w_X1 ad (b1) cs u1)])) 0 0 (va_A (fl [(w_X1 ad (b1) cs S1)]) sz) := by
  refine mt_of (own := RX1) (cc := cX1_bring) (maxL := 4) (ret := none) (Qc := fun A => QV dC dI (tyL cs) A (fl [(w_X1 ad (b1) cs u1)])) rfl (by decide) rfl (Nat.le_of_ble_eq_true rfl) (fun p e s m below meth c A ls hsz hx hb hr hts hown hlocks hml hA hK hP hD hS hl => ?_)
  subst hsz
  have hl : lv_has ls 4 [(0, .ref (ad b1)), (1, .int p1), (2, .int p2), (3, .int p3)] := hl
  have hF11 := hts (.fieldLink RX1 11 "DockedBikes$Bicycles" "where" "[I") (List.mem_of_getElem? (i := 1) rfl)
  have hF15 := hts (.fieldLink RX1 15 "DockedBikes$Bicycles" "holder" "[I") (List.mem_of_getElem? (i := 2) rfl)
  have hinX1 : ∀ w ∈ wsX10, w ∈ wsX1_bring := by decide +kernel
  refine lv_aload_n hx hb dX1_bring_0 rfl (lv_at hl 0 rfl) ?_
  refine lv_iload_n hx hb dX1_bring_1 rfl (lv_at hl 1 rfl) ?_
  replace hR := bd_e hR
  obtain ⟨q2, gq2, hR⟩ := hR
  refine cl_Vi (As := [.int p1]) (rest := []) (L := [(w_X1 ad (b1) cs S1)]) (L' := [(w_X1 ad (b1) cs S1)]) (Wc := [(w_X1 ad (b1) cs S1)]) (Wc' := [(w_X1 ad (b1) cs S1)]) (is := [0]) (js := []) ⟨hx, hb, hml, hown, hts⟩ (k_X1_has l dC dI cs ad (b1) s.heap.size S1 p1 q2 gq2) (cwV 1 hts gX1_bring_X1_has rfl rfl rfl cd_X1_has ⟨Nat.le_of_ble_eq_true rfl, Nat.le_of_ble_eq_true rfl⟩) hK hP hD hS hA ⟨rfl, rfl, rfl, rfl, rfl, rfl⟩ (jn_nd (is := [0]) hD rfl rfl) 0 0 rfl rfl rfl rfl rfl hl.1 (Nat.le_of_ble_eq_true rfl) dX1_bring_2 (fun H2 locs2 hP' hD' hS' => ?_)
  replace hS := hS'
  replace hP : va_P (dC, dI) vwCl (fl [(w_X1 ad (b1) cs S1)]) H2 := hP'
  replace hD : va_D A (fl [(w_X1 ad (b1) cs S1)]) := hD'
  clear hP' hD' hS'
  refine lv_if_eq (tgt := 22) hx hb dX1_bring_5 (by decide) (fun c5 => ?_) (fun c5 => ?_)
  · replace hR := it_t hR c5
    replace hR := Option.some.inj hR
    have eu1 := hR
    replace hP : va_P (dC, dI) vwCl (fl [(w_X1 ad (b1) cs u1)]) H2 := by rw [← eu1]; exact hP
    replace hD : va_D A (fl [(w_X1 ad (b1) cs u1)]) := by rw [← eu1]; exact hD
    exact W.vret hx hb hr (fun t ht hW => ⟨⟨(), rfl, trivial, by rw [ht]; exact hP, va_K.moved hW.alike hK, hD⟩, hS.F ht⟩) hS.2.2 dX1_bring_22
  · replace hR := it_f hR c5
    refine lv_aload_n hx hb dX1_bring_8 rfl (lv_at hl 0 rfl) ?_
    refine va_get (D := (dC, dI)) (ci := 0) (v := .ref (ad (b1 + 1))) (C := RX1) (T := TX1) (N := 7) hx hb hts hinX1 hown hK hP 0 rfl rfl 1 (by decide) hF11 (fun _ h9 => h9) rfl dX1_bring_9 ?_
    refine lv_iload_n hx hb dX1_bring_12 rfl (lv_at hl 1 rfl) ?_
    refine lv_iload_n hx hb dX1_bring_13 rfl (lv_at hl 2 rfl) ?_
    replace hR := gi_e hR
    obtain ⟨i14, hR⟩ := hR
    refine va_iast hx hb hK hP hD hS 1 0 rfl rfl i14 dX1_bring_14 (fun H14 locs14 hP' hD' hS' => ?_)
    replace hS := hS'
    have hP' : va_P (dC, dI) vwCl (fl [(w_X1 ad (b1) cs (sU S1 0 (sU (S1 0) p1.toNatClampNeg p2)))]) H14 := hP'
    have hD' : va_D A (fl [(w_X1 ad (b1) cs (sU S1 0 (sU (S1 0) p1.toNatClampNeg p2)))]) := hD'
    replace hR := bn_e hR
    obtain ⟨S1_14, eS1_14, hR⟩ := hR
    replace hP : va_P (dC, dI) vwCl (fl [(w_X1 ad (b1) cs S1_14)]) H14 := by rw [eS1_14]; exact hP'
    replace hD : va_D A (fl [(w_X1 ad (b1) cs S1_14)]) := by rw [eS1_14]; exact hD'
    clear hP' hD' hS'
    refine lv_aload_n hx hb dX1_bring_15 rfl (lv_at hl 0 rfl) ?_
    refine va_get (D := (dC, dI)) (ci := 0) (v := .ref (ad (b1 + 2))) (C := RX1) (T := TX1) (N := 7) hx hb hts hinX1 hown hK hP 0 rfl rfl 2 (by decide) hF15 (fun _ h9 => h9) rfl dX1_bring_16 ?_
    refine lv_iload_n hx hb dX1_bring_19 rfl (lv_at hl 1 rfl) ?_
    refine lv_iload_n hx hb dX1_bring_20 rfl (lv_at hl 3 rfl) ?_
    replace hR := gi_e hR
    obtain ⟨i21, hR⟩ := hR
    refine va_iast hx hb hK hP hD hS 2 0 rfl rfl i21 dX1_bring_21 (fun H21 locs21 hP' hD' hS' => ?_)
    replace hS := hS'
    have hP' : va_P (dC, dI) vwCl (fl [(w_X1 ad (b1) cs (sU S1_14 1 (sU (S1_14 1) p1.toNatClampNeg p3)))]) H21 := hP'
    have hD' : va_D A (fl [(w_X1 ad (b1) cs (sU S1_14 1 (sU (S1_14 1) p1.toNatClampNeg p3)))]) := hD'
    replace hR := bn_e hR
    obtain ⟨S1_21, eS1_21, hR⟩ := hR
    replace hP : va_P (dC, dI) vwCl (fl [(w_X1 ad (b1) cs S1_21)]) H21 := by rw [eS1_21]; exact hP'
    replace hD : va_D A (fl [(w_X1 ad (b1) cs S1_21)]) := by rw [eS1_21]; exact hD'
    clear hP' hD' hS'
    replace hR := Option.some.inj hR
    have eu1 := hR
    replace hP : va_P (dC, dI) vwCl (fl [(w_X1 ad (b1) cs u1)]) H21 := by rw [← eu1]; exact hP
    replace hD : va_D A (fl [(w_X1 ad (b1) cs u1)]) := by rw [← eu1]; exact hD
    exact W.vret hx hb hr (fun t ht hW => ⟨⟨(), rfl, trivial, by rw [ht]; exact hP, va_K.moved hW.alike hK, hD⟩, hS.F ht⟩) hS.2.2 dX1_bring_22
set_option maxHeartbeats 8000000 in
set_option maxRecDepth 100000 in
theorem k_X1_countWhere (l : Launch) (dC : Nat → ClassId) (dI : Nat → Nat → Nat) (cs : Nat → ClassId) (ad : Nat → Nat) (b1 : Nat) (sz : Nat) (S1 : T2) (p1 : Int32) (r : Int32) (hR : fX1_countWhere S1 p1 = some r) : Met l yX1_countWhere wsX1_countWhere ({ frames := 0, cells := 0, slots := 0, locals := 0 } : Room) (va_Pc [.ref (ad b1), .int p1] (pW dC dI (tyL cs) (fl [(w_X1 ad (b1) cs S1)]) sz)) (QI dC dI (tyL cs) (va_A (fl [(w_X1 ad (b1) cs S1)]) sz) (fl [(w_X1 ad (b1) cs S1)]) r) 0 0 (va_A (fl [(w_X1 ad (b1) cs S1)]) sz) := by
  refine mt_of (own := RX1) (cc := cX1_countWhere) (maxL := 4) (ret := (some .int)) (Qc := fun A => QI dC dI (tyL cs) A (fl [(w_X1 ad (b1) cs S1)]) r) rfl (by decide) rfl (Nat.le_of_ble_eq_true rfl) (fun p e s m below meth c A ls hsz hx hb hr hts hown hlocks hml hA hK hP hD hS hl => ?_)
  subst hsz
  have hl : lv_has ls 4 [(0, .ref (ad b1)), (1, .int p1)] := hl
  have hF11 := hts (.fieldLink RX1 11 "DockedBikes$Bicycles" "where" "[I") (List.mem_of_getElem? (i := 2) rfl)
  have hF30 := hts (.fieldLink RX1 30 "DockedBikes$Bicycles" "size" "I") (List.mem_of_getElem? (i := 1) rfl)
  have hinX1 : ∀ w ∈ wsX10, w ∈ wsX1_countWhere := by decide +kernel
  have hB4 : ∀ (n4 : Nat), ∀ (v2_4 : Int32) (v3_4 : Int32) (H : Heap) (locs : List Loc) (ls : Array Slot), fX1_countWhere_4 S1 p1 n4 v2_4 v3_4 = some r → va_P (dC, dI) vwCl (fl [(w_X1 ad (b1) cs S1)]) H → va_D A (fl [(w_X1 ad (b1) cs S1)]) → va_S A s.heap H locs → lv_has ls 4 [(0, .ref (ad b1)), (1, .int p1), (2, .int v2_4), (3, .int v3_4)] → W p l e (headSpec wsX1_countWhere ({ frames := 0, cells := 0, slots := 0, locals := 0 } : Room)).room s m ([.ref (ad b1), .int p1] : List Value).toArray below meth c H locs 0 0 (MQ below (QI dC dI (tyL cs) A (fl [(w_X1 ad (b1) cs S1)]) r) ([.ref (ad b1), .int p1] : List Value).toArray s 0 0 A) (F0 m 4 ls []) := by
    intro n4
    induction n4 with
    | zero =>
      intro v2_4 v3_4 H locs ls hR hP hD hS hl
      exact nn_e hR
    | succ n4 hI4 =>
      have hB25 : ∀ (v2_25 : Int32) (v3_25 : Int32) (H : Heap) (locs : List Loc) (ls : Array Slot), fX1_countWhere_25 (fX1_countWhere_4 S1 p1 n4) S1 p1 v2_25 v3_25 = some r → va_P (dC, dI) vwCl (fl [(w_X1 ad (b1) cs S1)]) H → va_D A (fl [(w_X1 ad (b1) cs S1)]) → va_S A s.heap H locs → lv_has ls 4 [(0, .ref (ad b1)), (1, .int p1), (2, .int v2_25), (3, .int v3_25)] → W p l e (headSpec wsX1_countWhere ({ frames := 0, cells := 0, slots := 0, locals := 0 } : Room)).room s m ([.ref (ad b1), .int p1] : List Value).toArray below meth c H locs 0 0 (MQ below (QI dC dI (tyL cs) A (fl [(w_X1 ad (b1) cs S1)]) r) ([.ref (ad b1), .int p1] : List Value).toArray s 0 0 A) (F0 m 25 ls []) := by
        intro v2_25 v3_25 H locs ls hR hP hD hS hl
        refine lv_iinc (v := (v3_25 + 1)) (lv' := [(3, .int (v3_25 + 1)), (0, .ref (ad b1)), (1, .int p1), (2, .int v2_25)]) hx hb dX1_countWhere_25 hl (k := 3) rfl rfl (Nat.le_of_ble_eq_true rfl) rfl (fun ls hl => ?_)
        refine lv_goto (tgt := 4) hx hb dX1_countWhere_28 (by decide) ?_
        exact hI4 v2_25 (v3_25 + 1) H _ ls hR hP hD hS (lv_sub hl [1, 2, 3, 0] rfl)
      intro v2_4 v3_4 H locs ls hR hP hD hS hl
      rw [fX1_countWhere_4] at hR
      refine lv_iload_n hx hb dX1_countWhere_4 rfl (lv_at hl 3 rfl) ?_
      refine lv_aload_n hx hb dX1_countWhere_5 rfl (lv_at hl 0 rfl) ?_
      refine va_get (D := (dC, dI)) (ci := 0) (v := .int (S1 6 0)) (C := RX1) (T := TX1) (N := 7) hx hb hts hinX1 hown hK hP 0 rfl rfl 0 (by decide) hF30 (fun _ h9 => h9) rfl dX1_countWhere_6 ?_
      refine lv_icmp_ge (tgt := 31) hx hb dX1_countWhere_9 (by decide) (fun c9 => ?_) (fun c9 => ?_)
      · replace hR := it_t hR c9
        refine lv_iload_n hx hb dX1_countWhere_31 rfl (lv_at hl 2 rfl) ?_
        replace hR := Option.some.inj hR
        have e9 := hR
        exact W.iret hx hb hr (fun t ht hW => ⟨⟨_, (), rfl, e9, by rw [ht]; exact hP, va_K.moved hW.alike hK, hD⟩, hS.F ht⟩) hS.2.2 dX1_countWhere_32
      · replace hR := it_f hR c9
        refine lv_aload_n hx hb dX1_countWhere_12 rfl (lv_at hl 0 rfl) ?_
        refine va_get (D := (dC, dI)) (ci := 0) (v := .ref (ad (b1 + 1))) (C := RX1) (T := TX1) (N := 7) hx hb hts hinX1 hown hK hP 0 rfl rfl 1 (by decide) hF11 (fun _ h9 => h9) rfl dX1_countWhere_13 ?_
        refine lv_iload_n hx hb dX1_countWhere_16 rfl (lv_at hl 3 rfl) ?_
        replace hR := gi_e hR
        obtain ⟨i17, hR⟩ := hR
        refine va_iald hx hb hK hP 1 0 rfl rfl i17 dX1_countWhere_17 ?_
        refine lv_iload_n hx hb dX1_countWhere_18 rfl (lv_at hl 1 rfl) ?_
        refine lv_icmp_ne (tgt := 25) hx hb dX1_countWhere_19 (by decide) (fun c19 => ?_) (fun c19 => ?_)
        · replace hR := it_f hR c19
          exact hB25 v2_4 v3_4 H _ ls hR hP hD hS (lv_sub hl [0, 1, 2, 3] rfl)
        · replace hR := it_t hR c19
          refine lv_iinc (v := (v2_4 + 1)) (lv' := [(2, .int (v2_4 + 1)), (0, .ref (ad b1)), (1, .int p1), (3, .int v3_4)]) hx hb dX1_countWhere_22 hl (k := 2) rfl rfl (Nat.le_of_ble_eq_true rfl) rfl (fun ls hl => ?_)
          exact hB25 (v2_4 + 1) v3_4 H _ ls hR hP hD hS (lv_sub hl [1, 2, 0, 3] rfl)
  refine lv_iconst (v := 0) hx hb dX1_countWhere_0 ic_0 ?_
  refine lv_istore_n (lv' := [(2, .int (0 : Int32)), (0, .ref (ad b1)), (1, .int p1)]) hx hb dX1_countWhere_1 rfl hl (Nat.le_of_ble_eq_true rfl) rfl (fun ls hl => ?_)
  refine lv_iconst (v := 0) hx hb dX1_countWhere_2 ic_0 ?_
  refine lv_istore_n (lv' := [(3, .int (0 : Int32)), (2, .int (0 : Int32)), (0, .ref (ad b1)), (1, .int p1)]) hx hb dX1_countWhere_3 rfl hl (Nat.le_of_ble_eq_true rfl) rfl (fun ls hl => ?_)
  exact hB4 fuel (0 : Int32) (0 : Int32) s.heap _ ls hR hP hD hS (lv_sub hl [2, 3, 1, 0] rfl)
set_option maxHeartbeats 8000000 in
set_option maxRecDepth 100000 in
theorem k_X1_setAt (l : Launch) (dC : Nat → ClassId) (dI : Nat → Nat → Nat) (cs : Nat → ClassId) (ad : Nat → Nat) (b1 : Nat) (sz : Nat) (S1 : T2) (p1 : Int32) (p2 : Int32) (r : Int32) (hR : fX1_setAt S1 p1 p2 = some r) : Met l yX1_setAt wsX1_setAt ({ frames := 0, cells := 0, slots := 0, locals := 0 } : Room) (va_Pc [.ref (ad b1), .int p1, .int p2] (pW dC dI (tyL cs) (fl [(w_X1 ad (b1) cs S1)]) sz)) (QI dC dI (tyL cs) (va_A (fl [(w_X1 ad (b1) cs S1)]) sz) (fl [(w_X1 ad (b1) cs S1)]) r) 0 0 (va_A (fl [(w_X1 ad (b1) cs S1)]) sz) := by
  refine mt_of (own := RX1) (cc := cX1_setAt) (maxL := 5) (ret := (some .int)) (Qc := fun A => QI dC dI (tyL cs) A (fl [(w_X1 ad (b1) cs S1)]) r) rfl (by decide) rfl (Nat.le_of_ble_eq_true rfl) (fun p e s m below meth c A ls hsz hx hb hr hts hown hlocks hml hA hK hP hD hS hl => ?_)
  subst hsz
  have hl : lv_has ls 5 [(0, .ref (ad b1)), (1, .int p1), (2, .int p2)] := hl
  have hF11 := hts (.fieldLink RX1 11 "DockedBikes$Bicycles" "where" "[I") (List.mem_of_getElem? (i := 2) rfl)
  have hF15 := hts (.fieldLink RX1 15 "DockedBikes$Bicycles" "holder" "[I") (List.mem_of_getElem? (i := 3) rfl)
  have hF30 := hts (.fieldLink RX1 30 "DockedBikes$Bicycles" "size" "I") (List.mem_of_getElem? (i := 1) rfl)
  have hinX1 : ∀ w ∈ wsX10, w ∈ wsX1_setAt := by decide +kernel
  have hB5 : ∀ (n5 : Nat), ∀ (v3_5 : Int32) (v4_5 : Int32) (H : Heap) (locs : List Loc) (ls : Array Slot), fX1_setAt_5 S1 p1 p2 n5 v3_5 v4_5 = some r → va_P (dC, dI) vwCl (fl [(w_X1 ad (b1) cs S1)]) H → va_D A (fl [(w_X1 ad (b1) cs S1)]) → va_S A s.heap H locs → lv_has ls 5 [(0, .ref (ad b1)), (1, .int p1), (2, .int p2), (3, .int v3_5), (4, .int v4_5)] → W p l e (headSpec wsX1_setAt ({ frames := 0, cells := 0, slots := 0, locals := 0 } : Room)).room s m ([.ref (ad b1), .int p1, .int p2] : List Value).toArray below meth c H locs 0 0 (MQ below (QI dC dI (tyL cs) A (fl [(w_X1 ad (b1) cs S1)]) r) ([.ref (ad b1), .int p1, .int p2] : List Value).toArray s 0 0 A) (F0 m 5 ls []) := by
    intro n5
    induction n5 with
    | zero =>
      intro v3_5 v4_5 H locs ls hR hP hD hS hl
      exact nn_e hR
    | succ n5 hI5 =>
      have hB43 : ∀ (v3_43 : Int32) (v4_43 : Int32) (H : Heap) (locs : List Loc) (ls : Array Slot), fX1_setAt_43 (fX1_setAt_5 S1 p1 p2 n5) S1 p1 p2 v3_43 v4_43 = some r → va_P (dC, dI) vwCl (fl [(w_X1 ad (b1) cs S1)]) H → va_D A (fl [(w_X1 ad (b1) cs S1)]) → va_S A s.heap H locs → lv_has ls 5 [(0, .ref (ad b1)), (1, .int p1), (2, .int p2), (3, .int v3_43), (4, .int v4_43)] → W p l e (headSpec wsX1_setAt ({ frames := 0, cells := 0, slots := 0, locals := 0 } : Room)).room s m ([.ref (ad b1), .int p1, .int p2] : List Value).toArray below meth c H locs 0 0 (MQ below (QI dC dI (tyL cs) A (fl [(w_X1 ad (b1) cs S1)]) r) ([.ref (ad b1), .int p1, .int p2] : List Value).toArray s 0 0 A) (F0 m 43 ls []) := by
        intro v3_43 v4_43 H locs ls hR hP hD hS hl
        refine lv_iinc (v := (v4_43 + 1)) (lv' := [(4, .int (v4_43 + 1)), (0, .ref (ad b1)), (1, .int p1), (2, .int p2), (3, .int v3_43)]) hx hb dX1_setAt_43 hl (k := 4) rfl rfl (Nat.le_of_ble_eq_true rfl) rfl (fun ls hl => ?_)
        refine lv_goto (tgt := 5) hx hb dX1_setAt_46 (by decide) ?_
        exact hI5 v3_43 (v4_43 + 1) H _ ls hR hP hD hS (lv_sub hl [1, 2, 3, 4, 0] rfl)
      intro v3_5 v4_5 H locs ls hR hP hD hS hl
      rw [fX1_setAt_5] at hR
      refine lv_iload hx hb dX1_setAt_5 (lv_at hl 4 rfl) ?_
      refine lv_aload_n hx hb dX1_setAt_7 rfl (lv_at hl 0 rfl) ?_
      refine va_get (D := (dC, dI)) (ci := 0) (v := .int (S1 6 0)) (C := RX1) (T := TX1) (N := 7) hx hb hts hinX1 hown hK hP 0 rfl rfl 0 (by decide) hF30 (fun _ h9 => h9) rfl dX1_setAt_8 ?_
      refine lv_icmp_ge (tgt := 49) hx hb dX1_setAt_11 (by decide) (fun c11 => ?_) (fun c11 => ?_)
      · replace hR := it_t hR c11
        refine lv_iload_n hx hb dX1_setAt_49 rfl (lv_at hl 3 rfl) ?_
        replace hR := Option.some.inj hR
        have e9 := hR
        exact W.iret hx hb hr (fun t ht hW => ⟨⟨_, (), rfl, e9, by rw [ht]; exact hP, va_K.moved hW.alike hK, hD⟩, hS.F ht⟩) hS.2.2 dX1_setAt_50
      · replace hR := it_f hR c11
        refine lv_aload_n hx hb dX1_setAt_14 rfl (lv_at hl 0 rfl) ?_
        refine va_get (D := (dC, dI)) (ci := 0) (v := .ref (ad (b1 + 1))) (C := RX1) (T := TX1) (N := 7) hx hb hts hinX1 hown hK hP 0 rfl rfl 1 (by decide) hF11 (fun _ h9 => h9) rfl dX1_setAt_15 ?_
        refine lv_iload hx hb dX1_setAt_18 (lv_at hl 4 rfl) ?_
        replace hR := gi_e hR
        obtain ⟨i20, hR⟩ := hR
        refine va_iald hx hb hK hP 1 0 rfl rfl i20 dX1_setAt_20 ?_
        refine lv_iload_n hx hb dX1_setAt_21 rfl (lv_at hl 1 rfl) ?_
        refine lv_icmp_ne (tgt := 43) hx hb dX1_setAt_22 (by decide) (fun c22 => ?_) (fun c22 => ?_)
        · replace hR := it_f hR c22
          exact hB43 v3_5 v4_5 H _ ls hR hP hD hS (lv_sub hl [0, 1, 2, 3, 4] rfl)
        · replace hR := it_t hR c22
          refine lv_aload_n hx hb dX1_setAt_25 rfl (lv_at hl 0 rfl) ?_
          refine va_get (D := (dC, dI)) (ci := 0) (v := .ref (ad (b1 + 2))) (C := RX1) (T := TX1) (N := 7) hx hb hts hinX1 hown hK hP 0 rfl rfl 2 (by decide) hF15 (fun _ h9 => h9) rfl dX1_setAt_26 ?_
          refine lv_iload hx hb dX1_setAt_29 (lv_at hl 4 rfl) ?_
          replace hR := gi_e hR
          obtain ⟨i31, hR⟩ := hR
          refine va_iald hx hb hK hP 2 0 rfl rfl i31 dX1_setAt_31 ?_
          refine lv_iload_n hx hb dX1_setAt_32 rfl (lv_at hl 2 rfl) ?_
          refine lv_icmp_ne (tgt := 43) hx hb dX1_setAt_33 (by decide) (fun c33 => ?_) (fun c33 => ?_)
          · replace hR := it_f hR c33
            exact hB43 v3_5 v4_5 H _ ls hR hP hD hS (lv_sub hl [0, 1, 2, 3, 4] rfl)
          · replace hR := it_t hR c33
            refine lv_iload_n hx hb dX1_setAt_36 rfl (lv_at hl 3 rfl) ?_
            refine lv_iconst (v := 1) hx hb dX1_setAt_37 ic_1 ?_
            refine lv_iload hx hb dX1_setAt_38 (lv_at hl 4 rfl) ?_
            refine lv_ishl hx hb dX1_setAt_40 ?_
            refine lv_ior hx hb dX1_setAt_41 ?_
            refine lv_istore_n (lv' := [(3, .int (v3_5 ||| ((1 : Int32) <<< (v4_5 &&& 31)))), (0, .ref (ad b1)), (1, .int p1), (2, .int p2), (4, .int v4_5)]) hx hb dX1_setAt_42 rfl hl (Nat.le_of_ble_eq_true rfl) rfl (fun ls hl => ?_)
            exact hB43 (v3_5 ||| ((1 : Int32) <<< (v4_5 &&& 31))) v4_5 H _ ls hR hP hD hS (lv_sub hl [1, 2, 3, 0, 4] rfl)
  refine lv_iconst (v := 0) hx hb dX1_setAt_0 ic_0 ?_
  refine lv_istore_n (lv' := [(3, .int (0 : Int32)), (0, .ref (ad b1)), (1, .int p1), (2, .int p2)]) hx hb dX1_setAt_1 rfl hl (Nat.le_of_ble_eq_true rfl) rfl (fun ls hl => ?_)
  refine lv_iconst (v := 0) hx hb dX1_setAt_2 ic_0 ?_
  refine lv_istore (lv' := [(4, .int (0 : Int32)), (3, .int (0 : Int32)), (0, .ref (ad b1)), (1, .int p1), (2, .int p2)]) hx hb dX1_setAt_3 hl (Nat.le_of_ble_eq_true rfl) rfl (fun ls hl => ?_)
  exact hB5 fuel (0 : Int32) (0 : Int32) s.heap _ ls hR hP hD hS (lv_sub hl [2, 3, 4, 1, 0] rfl)
set_option maxHeartbeats 8000000 in
set_option maxRecDepth 100000 in
theorem k_X1_countAt (l : Launch) (dC : Nat → ClassId) (dI : Nat → Nat → Nat) (cs : Nat → ClassId) (ad : Nat → Nat) (b1 : Nat) (sz : Nat) (S1 : T2) (p1 : Int32) (p2 : Int32) (r : Int32) (hR : fX1_countAt S1 p1 p2 = some r) : Met l yX1_countAt wsX1_countAt ({ frames := 0, cells := 0, slots := 0, locals := 0 } : Room) (va_Pc [.ref (ad b1), .int p1, .int p2] (pW dC dI (tyL cs) (fl [(w_X1 ad (b1) cs S1)]) sz)) (QI dC dI (tyL cs) (va_A (fl [(w_X1 ad (b1) cs S1)]) sz) (fl [(w_X1 ad (b1) cs S1)]) r) 0 0 (va_A (fl [(w_X1 ad (b1) cs S1)]) sz) := by
  refine mt_of (own := RX1) (cc := cX1_countAt) (maxL := 5) (ret := (some .int)) (Qc := fun A => QI dC dI (tyL cs) A (fl [(w_X1 ad (b1) cs S1)]) r) rfl (by decide) rfl (Nat.le_of_ble_eq_true rfl) (fun p e s m below meth c A ls hsz hx hb hr hts hown hlocks hml hA hK hP hD hS hl => ?_)
  subst hsz
  have hl : lv_has ls 5 [(0, .ref (ad b1)), (1, .int p1), (2, .int p2)] := hl
  have hF11 := hts (.fieldLink RX1 11 "DockedBikes$Bicycles" "where" "[I") (List.mem_of_getElem? (i := 2) rfl)
  have hF15 := hts (.fieldLink RX1 15 "DockedBikes$Bicycles" "holder" "[I") (List.mem_of_getElem? (i := 3) rfl)
  have hF30 := hts (.fieldLink RX1 30 "DockedBikes$Bicycles" "size" "I") (List.mem_of_getElem? (i := 1) rfl)
  have hinX1 : ∀ w ∈ wsX10, w ∈ wsX1_countAt := by decide +kernel
  have hB5 : ∀ (n5 : Nat), ∀ (v3_5 : Int32) (v4_5 : Int32) (H : Heap) (locs : List Loc) (ls : Array Slot), fX1_countAt_5 S1 p1 p2 n5 v3_5 v4_5 = some r → va_P (dC, dI) vwCl (fl [(w_X1 ad (b1) cs S1)]) H → va_D A (fl [(w_X1 ad (b1) cs S1)]) → va_S A s.heap H locs → lv_has ls 5 [(0, .ref (ad b1)), (1, .int p1), (2, .int p2), (3, .int v3_5), (4, .int v4_5)] → W p l e (headSpec wsX1_countAt ({ frames := 0, cells := 0, slots := 0, locals := 0 } : Room)).room s m ([.ref (ad b1), .int p1, .int p2] : List Value).toArray below meth c H locs 0 0 (MQ below (QI dC dI (tyL cs) A (fl [(w_X1 ad (b1) cs S1)]) r) ([.ref (ad b1), .int p1, .int p2] : List Value).toArray s 0 0 A) (F0 m 5 ls []) := by
    intro n5
    induction n5 with
    | zero =>
      intro v3_5 v4_5 H locs ls hR hP hD hS hl
      exact nn_e hR
    | succ n5 hI5 =>
      have hB39 : ∀ (v3_39 : Int32) (v4_39 : Int32) (H : Heap) (locs : List Loc) (ls : Array Slot), fX1_countAt_39 (fX1_countAt_5 S1 p1 p2 n5) S1 p1 p2 v3_39 v4_39 = some r → va_P (dC, dI) vwCl (fl [(w_X1 ad (b1) cs S1)]) H → va_D A (fl [(w_X1 ad (b1) cs S1)]) → va_S A s.heap H locs → lv_has ls 5 [(0, .ref (ad b1)), (1, .int p1), (2, .int p2), (3, .int v3_39), (4, .int v4_39)] → W p l e (headSpec wsX1_countAt ({ frames := 0, cells := 0, slots := 0, locals := 0 } : Room)).room s m ([.ref (ad b1), .int p1, .int p2] : List Value).toArray below meth c H locs 0 0 (MQ below (QI dC dI (tyL cs) A (fl [(w_X1 ad (b1) cs S1)]) r) ([.ref (ad b1), .int p1, .int p2] : List Value).toArray s 0 0 A) (F0 m 39 ls []) := by
        intro v3_39 v4_39 H locs ls hR hP hD hS hl
        refine lv_iinc (v := (v4_39 + 1)) (lv' := [(4, .int (v4_39 + 1)), (0, .ref (ad b1)), (1, .int p1), (2, .int p2), (3, .int v3_39)]) hx hb dX1_countAt_39 hl (k := 4) rfl rfl (Nat.le_of_ble_eq_true rfl) rfl (fun ls hl => ?_)
        refine lv_goto (tgt := 5) hx hb dX1_countAt_42 (by decide) ?_
        exact hI5 v3_39 (v4_39 + 1) H _ ls hR hP hD hS (lv_sub hl [1, 2, 3, 4, 0] rfl)
      intro v3_5 v4_5 H locs ls hR hP hD hS hl
      rw [fX1_countAt_5] at hR
      refine lv_iload hx hb dX1_countAt_5 (lv_at hl 4 rfl) ?_
      refine lv_aload_n hx hb dX1_countAt_7 rfl (lv_at hl 0 rfl) ?_
      refine va_get (D := (dC, dI)) (ci := 0) (v := .int (S1 6 0)) (C := RX1) (T := TX1) (N := 7) hx hb hts hinX1 hown hK hP 0 rfl rfl 0 (by decide) hF30 (fun _ h9 => h9) rfl dX1_countAt_8 ?_
      refine lv_icmp_ge (tgt := 45) hx hb dX1_countAt_11 (by decide) (fun c11 => ?_) (fun c11 => ?_)
      · replace hR := it_t hR c11
        refine lv_iload_n hx hb dX1_countAt_45 rfl (lv_at hl 3 rfl) ?_
        replace hR := Option.some.inj hR
        have e9 := hR
        exact W.iret hx hb hr (fun t ht hW => ⟨⟨_, (), rfl, e9, by rw [ht]; exact hP, va_K.moved hW.alike hK, hD⟩, hS.F ht⟩) hS.2.2 dX1_countAt_46
      · replace hR := it_f hR c11
        refine lv_aload_n hx hb dX1_countAt_14 rfl (lv_at hl 0 rfl) ?_
        refine va_get (D := (dC, dI)) (ci := 0) (v := .ref (ad (b1 + 1))) (C := RX1) (T := TX1) (N := 7) hx hb hts hinX1 hown hK hP 0 rfl rfl 1 (by decide) hF11 (fun _ h9 => h9) rfl dX1_countAt_15 ?_
        refine lv_iload hx hb dX1_countAt_18 (lv_at hl 4 rfl) ?_
        replace hR := gi_e hR
        obtain ⟨i20, hR⟩ := hR
        refine va_iald hx hb hK hP 1 0 rfl rfl i20 dX1_countAt_20 ?_
        refine lv_iload_n hx hb dX1_countAt_21 rfl (lv_at hl 1 rfl) ?_
        refine lv_icmp_ne (tgt := 39) hx hb dX1_countAt_22 (by decide) (fun c22 => ?_) (fun c22 => ?_)
        · replace hR := it_f hR c22
          exact hB39 v3_5 v4_5 H _ ls hR hP hD hS (lv_sub hl [0, 1, 2, 3, 4] rfl)
        · replace hR := it_t hR c22
          refine lv_aload_n hx hb dX1_countAt_25 rfl (lv_at hl 0 rfl) ?_
          refine va_get (D := (dC, dI)) (ci := 0) (v := .ref (ad (b1 + 2))) (C := RX1) (T := TX1) (N := 7) hx hb hts hinX1 hown hK hP 0 rfl rfl 2 (by decide) hF15 (fun _ h9 => h9) rfl dX1_countAt_26 ?_
          refine lv_iload hx hb dX1_countAt_29 (lv_at hl 4 rfl) ?_
          replace hR := gi_e hR
          obtain ⟨i31, hR⟩ := hR
          refine va_iald hx hb hK hP 2 0 rfl rfl i31 dX1_countAt_31 ?_
          refine lv_iload_n hx hb dX1_countAt_32 rfl (lv_at hl 2 rfl) ?_
          refine lv_icmp_ne (tgt := 39) hx hb dX1_countAt_33 (by decide) (fun c33 => ?_) (fun c33 => ?_)
          · replace hR := it_f hR c33
            exact hB39 v3_5 v4_5 H _ ls hR hP hD hS (lv_sub hl [0, 1, 2, 3, 4] rfl)
          · replace hR := it_t hR c33
            refine lv_iinc (v := (v3_5 + 1)) (lv' := [(3, .int (v3_5 + 1)), (0, .ref (ad b1)), (1, .int p1), (2, .int p2), (4, .int v4_5)]) hx hb dX1_countAt_36 hl (k := 3) rfl rfl (Nat.le_of_ble_eq_true rfl) rfl (fun ls hl => ?_)
            exact hB39 (v3_5 + 1) v4_5 H _ ls hR hP hD hS (lv_sub hl [1, 2, 3, 0, 4] rfl)
  refine lv_iconst (v := 0) hx hb dX1_countAt_0 ic_0 ?_
  refine lv_istore_n (lv' := [(3, .int (0 : Int32)), (0, .ref (ad b1)), (1, .int p1), (2, .int p2)]) hx hb dX1_countAt_1 rfl hl (Nat.le_of_ble_eq_true rfl) rfl (fun ls hl => ?_)
  refine lv_iconst (v := 0) hx hb dX1_countAt_2 ic_0 ?_
  refine lv_istore (lv' := [(4, .int (0 : Int32)), (3, .int (0 : Int32)), (0, .ref (ad b1)), (1, .int p1), (2, .int p2)]) hx hb dX1_countAt_3 hl (Nat.le_of_ble_eq_true rfl) rfl (fun ls hl => ?_)
  exact hB5 fuel (0 : Int32) (0 : Int32) s.heap _ ls hR hP hD hS (lv_sub hl [2, 3, 4, 1, 0] rfl)
set_option maxHeartbeats 8000000 in
set_option maxRecDepth 100000 in
theorem k_X1_countFaulty (l : Launch) (dC : Nat → ClassId) (dI : Nat → Nat → Nat) (cs : Nat → ClassId) (ad : Nat → Nat) (b1 : Nat) (sz : Nat) (S1 : T2) (r : Int32) (hR : fX1_countFaulty S1 = some r) : Met l yX1_countFaulty wsX1_countFaulty ({ frames := 0, cells := 0, slots := 0, locals := 0 } : Room) (va_Pc [.ref (ad b1)] (pW dC dI (tyL cs) (fl [(w_X1 ad (b1) cs S1)]) sz)) (QI dC dI (tyL cs) (va_A (fl [(w_X1 ad (b1) cs S1)]) sz) (fl [(w_X1 ad (b1) cs S1)]) r) 0 0 (va_A (fl [(w_X1 ad (b1) cs S1)]) sz) := by
  refine mt_of (own := RX1) (cc := cX1_countFaulty) (maxL := 3) (ret := (some .int)) (Qc := fun A => QI dC dI (tyL cs) A (fl [(w_X1 ad (b1) cs S1)]) r) rfl (by decide) rfl (Nat.le_of_ble_eq_true rfl) (fun p e s m below meth c A ls hsz hx hb hr hts hown hlocks hml hA hK hP hD hS hl => ?_)
  subst hsz
  have hl : lv_has ls 3 [(0, .ref (ad b1))] := hl
  have hF21 := hts (.fieldLink RX1 21 "DockedBikes$Bicycles" "faulty" "[I") (List.mem_of_getElem? (i := 2) rfl)
  have hF30 := hts (.fieldLink RX1 30 "DockedBikes$Bicycles" "size" "I") (List.mem_of_getElem? (i := 1) rfl)
  have hinX1 : ∀ w ∈ wsX10, w ∈ wsX1_countFaulty := by decide +kernel
  have hB4 : ∀ (n4 : Nat), ∀ (v1_4 : Int32) (v2_4 : Int32) (H : Heap) (locs : List Loc) (ls : Array Slot), fX1_countFaulty_4 S1 n4 v1_4 v2_4 = some r → va_P (dC, dI) vwCl (fl [(w_X1 ad (b1) cs S1)]) H → va_D A (fl [(w_X1 ad (b1) cs S1)]) → va_S A s.heap H locs → lv_has ls 3 [(0, .ref (ad b1)), (1, .int v1_4), (2, .int v2_4)] → W p l e (headSpec wsX1_countFaulty ({ frames := 0, cells := 0, slots := 0, locals := 0 } : Room)).room s m ([.ref (ad b1)] : List Value).toArray below meth c H locs 0 0 (MQ below (QI dC dI (tyL cs) A (fl [(w_X1 ad (b1) cs S1)]) r) ([.ref (ad b1)] : List Value).toArray s 0 0 A) (F0 m 4 ls []) := by
    intro n4
    induction n4 with
    | zero =>
      intro v1_4 v2_4 H locs ls hR hP hD hS hl
      exact nn_e hR
    | succ n4 hI4 =>
      intro v1_4 v2_4 H locs ls hR hP hD hS hl
      rw [fX1_countFaulty_4] at hR
      refine lv_iload_n hx hb dX1_countFaulty_4 rfl (lv_at hl 2 rfl) ?_
      refine lv_aload_n hx hb dX1_countFaulty_5 rfl (lv_at hl 0 rfl) ?_
      refine va_get (D := (dC, dI)) (ci := 0) (v := .int (S1 6 0)) (C := RX1) (T := TX1) (N := 7) hx hb hts hinX1 hown hK hP 0 rfl rfl 0 (by decide) hF30 (fun _ h9 => h9) rfl dX1_countFaulty_6 ?_
      refine lv_icmp_ge (tgt := 27) hx hb dX1_countFaulty_9 (by decide) (fun c9 => ?_) (fun c9 => ?_)
      · replace hR := it_t hR c9
        refine lv_iload_n hx hb dX1_countFaulty_27 rfl (lv_at hl 1 rfl) ?_
        replace hR := Option.some.inj hR
        have e9 := hR
        exact W.iret hx hb hr (fun t ht hW => ⟨⟨_, (), rfl, e9, by rw [ht]; exact hP, va_K.moved hW.alike hK, hD⟩, hS.F ht⟩) hS.2.2 dX1_countFaulty_28
      · replace hR := it_f hR c9
        refine lv_iload_n hx hb dX1_countFaulty_12 rfl (lv_at hl 1 rfl) ?_
        refine lv_aload_n hx hb dX1_countFaulty_13 rfl (lv_at hl 0 rfl) ?_
        refine va_get (D := (dC, dI)) (ci := 0) (v := .ref (ad (b1 + 4))) (C := RX1) (T := TX1) (N := 7) hx hb hts hinX1 hown hK hP 0 rfl rfl 4 (by decide) hF21 (fun _ h9 => h9) rfl dX1_countFaulty_14 ?_
        refine lv_iload_n hx hb dX1_countFaulty_17 rfl (lv_at hl 2 rfl) ?_
        replace hR := gi_e hR
        obtain ⟨i18, hR⟩ := hR
        refine va_iald hx hb hK hP 4 0 rfl rfl i18 dX1_countFaulty_18 ?_
        refine lv_iadd hx hb dX1_countFaulty_19 ?_
        refine lv_istore_n (lv' := [(1, .int (v1_4 + (S1 3 v2_4.toNatClampNeg))), (0, .ref (ad b1)), (2, .int v2_4)]) hx hb dX1_countFaulty_20 rfl hl (Nat.le_of_ble_eq_true rfl) rfl (fun ls hl => ?_)
        refine lv_iinc (v := (v2_4 + 1)) (lv' := [(2, .int (v2_4 + 1)), (1, .int (v1_4 + (S1 3 v2_4.toNatClampNeg))), (0, .ref (ad b1))]) hx hb dX1_countFaulty_21 hl (k := 2) rfl rfl (Nat.le_of_ble_eq_true rfl) rfl (fun ls hl => ?_)
        refine lv_goto (tgt := 4) hx hb dX1_countFaulty_24 (by decide) ?_
        exact hI4 (v1_4 + (S1 3 v2_4.toNatClampNeg)) (v2_4 + 1) H _ ls hR hP hD hS (lv_sub hl [2, 1, 0] rfl)
  refine lv_iconst (v := 0) hx hb dX1_countFaulty_0 ic_0 ?_
  refine lv_istore_n (lv' := [(1, .int (0 : Int32)), (0, .ref (ad b1))]) hx hb dX1_countFaulty_1 rfl hl (Nat.le_of_ble_eq_true rfl) rfl (fun ls hl => ?_)
  refine lv_iconst (v := 0) hx hb dX1_countFaulty_2 ic_0 ?_
  refine lv_istore_n (lv' := [(2, .int (0 : Int32)), (1, .int (0 : Int32)), (0, .ref (ad b1))]) hx hb dX1_countFaulty_3 rfl hl (Nat.le_of_ble_eq_true rfl) rfl (fun ls hl => ?_)
  exact hB4 fuel (0 : Int32) (0 : Int32) s.heap _ ls hR hP hD hS (lv_sub hl [2, 1, 0] rfl)
set_option maxHeartbeats 8000000 in
set_option maxRecDepth 100000 in
theorem k_X1_leastRiddenAt (l : Launch) (dC : Nat → ClassId) (dI : Nat → Nat → Nat) (cs : Nat → ClassId) (ad : Nat → Nat) (b1 : Nat) (sz : Nat) (S1 : T2) (p1 : Int32) (r : Int32) (hR : fX1_leastRiddenAt S1 p1 = some r) : Met l yX1_leastRiddenAt wsX1_leastRiddenAt ({ frames := 2, cells := 0, slots := 0, locals := 44 } : Room) (va_Pc [.ref (ad b1), .int p1] (pW dC dI (tyL cs) (fl [(w_X1 ad (b1) cs S1)]) sz)) (QI dC dI (tyL cs) (va_A (fl [(w_X1 ad (b1) cs S1)]) sz) (fl [(w_X1 ad (b1) cs S1)]) r) 0 0 (va_A (fl [(w_X1 ad (b1) cs S1)]) sz) := by
  refine mt_of (own := RX1) (cc := cX1_leastRiddenAt) (maxL := 5) (ret := (some .int)) (Qc := fun A => QI dC dI (tyL cs) A (fl [(w_X1 ad (b1) cs S1)]) r) rfl (by decide) rfl (Nat.le_of_ble_eq_true rfl) (fun p e s m below meth c A ls hsz hx hb hr hts hown hlocks hml hA hK hP hD hS hl => ?_)
  subst hsz
  have hl : lv_has ls 5 [(0, .ref (ad b1)), (1, .int p1)] := hl
  have hF18 := hts (.fieldLink RX1 18 "DockedBikes$Bicycles" "minutes" "[I") (List.mem_of_getElem? (i := 3) rfl)
  have hF21 := hts (.fieldLink RX1 21 "DockedBikes$Bicycles" "faulty" "[I") (List.mem_of_getElem? (i := 2) rfl)
  have hF30 := hts (.fieldLink RX1 30 "DockedBikes$Bicycles" "size" "I") (List.mem_of_getElem? (i := 1) rfl)
  have hinX1 : ∀ w ∈ wsX10, w ∈ wsX1_leastRiddenAt := by decide +kernel
  have hB4 : ∀ (n4 : Nat), ∀ (v2_4 : Int32) (v3_4 : Int32) (H : Heap) (locs : List Loc) (ls : Array Slot), fX1_leastRiddenAt_4 S1 p1 n4 v2_4 v3_4 = some r → va_P (dC, dI) vwCl (fl [(w_X1 ad (b1) cs S1)]) H → va_D A (fl [(w_X1 ad (b1) cs S1)]) → va_S A s.heap H locs → lv_has ls 5 [(0, .ref (ad b1)), (1, .int p1), (2, .int v2_4), (3, .int v3_4)] → W p l e (headSpec wsX1_leastRiddenAt ({ frames := 2, cells := 0, slots := 0, locals := 44 } : Room)).room s m ([.ref (ad b1), .int p1] : List Value).toArray below meth c H locs 0 0 (MQ below (QI dC dI (tyL cs) A (fl [(w_X1 ad (b1) cs S1)]) r) ([.ref (ad b1), .int p1] : List Value).toArray s 0 0 A) (F0 m 4 ls []) := by
    intro n4
    induction n4 with
    | zero =>
      intro v2_4 v3_4 H locs ls hR hP hD hS hl
      exact nn_e hR
    | succ n4 hI4 =>
      have hB64 : ∀ (v2_64 : Int32) (v3_64 : Int32) (H : Heap) (locs : List Loc) (ls : Array Slot), fX1_leastRiddenAt_64 (fX1_leastRiddenAt_4 S1 p1 n4) S1 p1 v2_64 v3_64 = some r → va_P (dC, dI) vwCl (fl [(w_X1 ad (b1) cs S1)]) H → va_D A (fl [(w_X1 ad (b1) cs S1)]) → va_S A s.heap H locs → lv_has ls 5 [(0, .ref (ad b1)), (1, .int p1), (2, .int v2_64), (3, .int v3_64)] → W p l e (headSpec wsX1_leastRiddenAt ({ frames := 2, cells := 0, slots := 0, locals := 44 } : Room)).room s m ([.ref (ad b1), .int p1] : List Value).toArray below meth c H locs 0 0 (MQ below (QI dC dI (tyL cs) A (fl [(w_X1 ad (b1) cs S1)]) r) ([.ref (ad b1), .int p1] : List Value).toArray s 0 0 A) (F0 m 64 ls []) := by
        intro v2_64 v3_64 H locs ls hR hP hD hS hl
        refine lv_iinc (v := (v3_64 + 1)) (lv' := [(3, .int (v3_64 + 1)), (0, .ref (ad b1)), (1, .int p1), (2, .int v2_64)]) hx hb dX1_leastRiddenAt_64 hl (k := 3) rfl rfl (Nat.le_of_ble_eq_true rfl) rfl (fun ls hl => ?_)
        refine lv_goto (tgt := 4) hx hb dX1_leastRiddenAt_67 (by decide) ?_
        exact hI4 v2_64 (v3_64 + 1) H _ ls hR hP hD hS (lv_sub hl [1, 2, 3, 0] rfl)
      have hB62 : ∀ (v3_62 : Int32) (H : Heap) (locs : List Loc) (ls : Array Slot), fX1_leastRiddenAt_62 (fX1_leastRiddenAt_4 S1 p1 n4) S1 p1 v3_62 = some r → va_P (dC, dI) vwCl (fl [(w_X1 ad (b1) cs S1)]) H → va_D A (fl [(w_X1 ad (b1) cs S1)]) → va_S A s.heap H locs → lv_has ls 5 [(0, .ref (ad b1)), (1, .int p1), (3, .int v3_62)] → W p l e (headSpec wsX1_leastRiddenAt ({ frames := 2, cells := 0, slots := 0, locals := 44 } : Room)).room s m ([.ref (ad b1), .int p1] : List Value).toArray below meth c H locs 0 0 (MQ below (QI dC dI (tyL cs) A (fl [(w_X1 ad (b1) cs S1)]) r) ([.ref (ad b1), .int p1] : List Value).toArray s 0 0 A) (F0 m 62 ls []) := by
        intro v3_62 H locs ls hR hP hD hS hl
        refine lv_iload_n hx hb dX1_leastRiddenAt_62 rfl (lv_at hl 2 rfl) ?_
        refine lv_istore_n (lv' := [(2, .int v3_62), (0, .ref (ad b1)), (1, .int p1), (3, .int v3_62)]) hx hb dX1_leastRiddenAt_63 rfl hl (Nat.le_of_ble_eq_true rfl) rfl (fun ls hl => ?_)
        exact hB64 v3_62 v3_62 H _ ls hR hP hD hS (lv_sub hl [1, 2, 0, 3] rfl)
      have hB36 : ∀ (v2_36 : Int32) (v3_36 : Int32) (t0_36 : Int32) (H : Heap) (locs : List Loc) (ls : Array Slot), fX1_leastRiddenAt_36 (fX1_leastRiddenAt_4 S1 p1 n4) S1 p1 v2_36 v3_36 t0_36 = some r → va_P (dC, dI) vwCl (fl [(w_X1 ad (b1) cs S1)]) H → va_D A (fl [(w_X1 ad (b1) cs S1)]) → va_S A s.heap H locs → lv_has ls 5 [(0, .ref (ad b1)), (1, .int p1), (2, .int v2_36), (3, .int v3_36)] → W p l e (headSpec wsX1_leastRiddenAt ({ frames := 2, cells := 0, slots := 0, locals := 44 } : Room)).room s m ([.ref (ad b1), .int p1] : List Value).toArray below meth c H locs 0 0 (MQ below (QI dC dI (tyL cs) A (fl [(w_X1 ad (b1) cs S1)]) r) ([.ref (ad b1), .int p1] : List Value).toArray s 0 0 A) (F0 m 36 ls [.int t0_36]) := by
        intro v2_36 v3_36 t0_36 H locs ls hR hP hD hS hl
        refine lv_istore (lv' := [(4, .int t0_36), (0, .ref (ad b1)), (1, .int p1), (2, .int v2_36), (3, .int v3_36)]) hx hb dX1_leastRiddenAt_36 hl (Nat.le_of_ble_eq_true rfl) rfl (fun ls hl => ?_)
        refine lv_iload hx hb dX1_leastRiddenAt_38 (lv_at hl 0 rfl) ?_
        refine lv_if_eq (tgt := 64) hx hb dX1_leastRiddenAt_40 (by decide) (fun c40 => ?_) (fun c40 => ?_)
        · replace hR := it_t hR c40
          exact hB64 v2_36 v3_36 H _ ls hR hP hD hS (lv_sub hl [1, 2, 3, 4] rfl)
        · replace hR := it_f hR c40
          refine lv_iload_n hx hb dX1_leastRiddenAt_43 rfl (lv_at hl 3 rfl) ?_
          refine lv_if_lt (tgt := 62) hx hb dX1_leastRiddenAt_44 (by decide) (fun c44 => ?_) (fun c44 => ?_)
          · replace hR := it_t hR c44
            exact hB62 v3_36 H _ ls hR hP hD hS (lv_sub hl [1, 2, 4] rfl)
          · replace hR := it_f hR c44
            refine lv_aload_n hx hb dX1_leastRiddenAt_47 rfl (lv_at hl 1 rfl) ?_
            refine va_get (D := (dC, dI)) (ci := 0) (v := .ref (ad (b1 + 3))) (C := RX1) (T := TX1) (N := 7) hx hb hts hinX1 hown hK hP 0 rfl rfl 3 (by decide) hF18 (fun _ h9 => h9) rfl dX1_leastRiddenAt_48 ?_
            refine lv_iload_n hx hb dX1_leastRiddenAt_51 rfl (lv_at hl 4 rfl) ?_
            replace hR := gi_e hR
            obtain ⟨i52, hR⟩ := hR
            refine va_iald hx hb hK hP 3 0 rfl rfl i52 dX1_leastRiddenAt_52 ?_
            refine lv_aload_n hx hb dX1_leastRiddenAt_53 rfl (lv_at hl 1 rfl) ?_
            refine va_get (D := (dC, dI)) (ci := 0) (v := .ref (ad (b1 + 3))) (C := RX1) (T := TX1) (N := 7) hx hb hts hinX1 hown hK hP 0 rfl rfl 3 (by decide) hF18 (fun _ h9 => h9) rfl dX1_leastRiddenAt_54 ?_
            refine lv_iload_n hx hb dX1_leastRiddenAt_57 rfl (lv_at hl 3 rfl) ?_
            replace hR := gi_e hR
            obtain ⟨i58, hR⟩ := hR
            refine va_iald hx hb hK hP 3 0 rfl rfl i58 dX1_leastRiddenAt_58 ?_
            refine lv_icmp_ge (tgt := 64) hx hb dX1_leastRiddenAt_59 (by decide) (fun c59 => ?_) (fun c59 => ?_)
            · replace hR := it_t hR c59
              exact hB64 v2_36 v3_36 H _ ls hR hP hD hS (lv_sub hl [1, 2, 3, 4] rfl)
            · replace hR := it_f hR c59
              exact hB62 v3_36 H _ ls hR hP hD hS (lv_sub hl [1, 2, 4] rfl)
      have hB35 : ∀ (v2_35 : Int32) (v3_35 : Int32) (H : Heap) (locs : List Loc) (ls : Array Slot), fX1_leastRiddenAt_35 (fX1_leastRiddenAt_4 S1 p1 n4) S1 p1 v2_35 v3_35 = some r → va_P (dC, dI) vwCl (fl [(w_X1 ad (b1) cs S1)]) H → va_D A (fl [(w_X1 ad (b1) cs S1)]) → va_S A s.heap H locs → lv_has ls 5 [(0, .ref (ad b1)), (1, .int p1), (2, .int v2_35), (3, .int v3_35)] → W p l e (headSpec wsX1_leastRiddenAt ({ frames := 2, cells := 0, slots := 0, locals := 44 } : Room)).room s m ([.ref (ad b1), .int p1] : List Value).toArray below meth c H locs 0 0 (MQ below (QI dC dI (tyL cs) A (fl [(w_X1 ad (b1) cs S1)]) r) ([.ref (ad b1), .int p1] : List Value).toArray s 0 0 A) (F0 m 35 ls []) := by
        intro v2_35 v3_35 H locs ls hR hP hD hS hl
        refine lv_iconst (v := 0) hx hb dX1_leastRiddenAt_35 ic_0 ?_
        exact hB36 v2_35 v3_35 (0 : Int32) H _ ls hR hP hD hS (lv_sub hl [0, 1, 2, 3] rfl)
      intro v2_4 v3_4 H locs ls hR hP hD hS hl
      rw [fX1_leastRiddenAt_4] at hR
      refine lv_iload_n hx hb dX1_leastRiddenAt_4 rfl (lv_at hl 3 rfl) ?_
      refine lv_aload_n hx hb dX1_leastRiddenAt_5 rfl (lv_at hl 0 rfl) ?_
      refine va_get (D := (dC, dI)) (ci := 0) (v := .int (S1 6 0)) (C := RX1) (T := TX1) (N := 7) hx hb hts hinX1 hown hK hP 0 rfl rfl 0 (by decide) hF30 (fun _ h9 => h9) rfl dX1_leastRiddenAt_6 ?_
      refine lv_icmp_ge (tgt := 70) hx hb dX1_leastRiddenAt_9 (by decide) (fun c9 => ?_) (fun c9 => ?_)
      · replace hR := it_t hR c9
        refine lv_iload_n hx hb dX1_leastRiddenAt_70 rfl (lv_at hl 2 rfl) ?_
        replace hR := Option.some.inj hR
        have e9 := hR
        exact W.iret hx hb hr (fun t ht hW => ⟨⟨_, (), rfl, e9, by rw [ht]; exact hP, va_K.moved hW.alike hK, hD⟩, hS.F ht⟩) hS.2.2 dX1_leastRiddenAt_71
      · replace hR := it_f hR c9
        refine lv_aload_n hx hb dX1_leastRiddenAt_12 rfl (lv_at hl 0 rfl) ?_
        refine lv_iload_n hx hb dX1_leastRiddenAt_13 rfl (lv_at hl 3 rfl) ?_
        refine lv_iconst (v := 0) hx hb dX1_leastRiddenAt_14 ic_0 ?_
        refine lv_iload_n hx hb dX1_leastRiddenAt_15 rfl (lv_at hl 1 rfl) ?_
        replace hR := bd_e hR
        obtain ⟨q16, gq16, hR⟩ := hR
        refine cl_Vi (As := [.int v3_4, .int (0 : Int32), .int p1]) (rest := []) (L := [(w_X1 ad (b1) cs S1)]) (L' := [(w_X1 ad (b1) cs S1)]) (Wc := [(w_X1 ad (b1) cs S1)]) (Wc' := [(w_X1 ad (b1) cs S1)]) (is := [0]) (js := []) ⟨hx, hb, hml, hown, hts⟩ (k_X1_isAt l dC dI cs ad (b1) H.size S1 v3_4 (0 : Int32) p1 q16 gq16) (cwV 3 hts gX1_leastRiddenAt_X1_isAt rfl rfl rfl cd_X1_isAt ⟨Nat.le_of_ble_eq_true rfl, Nat.le_of_ble_eq_true rfl⟩) hK hP hD hS hA ⟨rfl, rfl, rfl, rfl, rfl, rfl⟩ (jn_nd (is := [0]) hD rfl rfl) 0 0 rfl rfl rfl rfl rfl hl.1 (Nat.le_of_ble_eq_true rfl) dX1_leastRiddenAt_16 (fun H16 locs16 hP' hD' hS' => ?_)
        replace hS := hS'
        replace hP : va_P (dC, dI) vwCl (fl [(w_X1 ad (b1) cs S1)]) H16 := hP'
        replace hD : va_D A (fl [(w_X1 ad (b1) cs S1)]) := hD'
        clear hP' hD' hS'
        refine lv_if_eq (tgt := 35) hx hb dX1_leastRiddenAt_19 (by decide) (fun c19 => ?_) (fun c19 => ?_)
        · replace hR := it_t hR c19
          exact hB35 v2_4 v3_4 H16 _ ls hR hP hD hS (lv_sub hl [0, 1, 2, 3] rfl)
        · replace hR := it_f hR c19
          refine lv_aload_n hx hb dX1_leastRiddenAt_22 rfl (lv_at hl 0 rfl) ?_
          refine va_get (D := (dC, dI)) (ci := 0) (v := .ref (ad (b1 + 4))) (C := RX1) (T := TX1) (N := 7) hx hb hts hinX1 hown hK hP 0 rfl rfl 4 (by decide) hF21 (fun _ h9 => h9) rfl dX1_leastRiddenAt_23 ?_
          refine lv_iload_n hx hb dX1_leastRiddenAt_26 rfl (lv_at hl 3 rfl) ?_
          replace hR := gi_e hR
          obtain ⟨i27, hR⟩ := hR
          refine va_iald hx hb hK hP 4 0 rfl rfl i27 dX1_leastRiddenAt_27 ?_
          refine lv_if_ne (tgt := 35) hx hb dX1_leastRiddenAt_28 (by decide) (fun c28 => ?_) (fun c28 => ?_)
          · replace hR := it_f hR c28
            exact hB35 v2_4 v3_4 H16 _ ls hR hP hD hS (lv_sub hl [0, 1, 2, 3] rfl)
          · replace hR := it_t hR c28
            refine lv_iconst (v := 1) hx hb dX1_leastRiddenAt_31 ic_1 ?_
            refine lv_goto (tgt := 36) hx hb dX1_leastRiddenAt_32 (by decide) ?_
            exact hB36 v2_4 v3_4 (1 : Int32) H16 _ ls hR hP hD hS (lv_sub hl [0, 1, 2, 3] rfl)
  refine lv_iconst (v := (-1)) hx hb dX1_leastRiddenAt_0 ic_m1 ?_
  refine lv_istore_n (lv' := [(2, .int (-1)), (0, .ref (ad b1)), (1, .int p1)]) hx hb dX1_leastRiddenAt_1 rfl hl (Nat.le_of_ble_eq_true rfl) rfl (fun ls hl => ?_)
  refine lv_iconst (v := 0) hx hb dX1_leastRiddenAt_2 ic_0 ?_
  refine lv_istore_n (lv' := [(3, .int (0 : Int32)), (2, .int (-1)), (0, .ref (ad b1)), (1, .int p1)]) hx hb dX1_leastRiddenAt_3 rfl hl (Nat.le_of_ble_eq_true rfl) rfl (fun ls hl => ?_)
  exact hB4 fuel (-1) (0 : Int32) s.heap _ ls hR hP hD hS (lv_sub hl [2, 3, 1, 0] rfl)
set_option maxHeartbeats 8000000 in
set_option maxRecDepth 100000 in
theorem k_X1_isReady (l : Launch) (dC : Nat → ClassId) (dI : Nat → Nat → Nat) (cs : Nat → ClassId) (ad : Nat → Nat) (b1 : Nat) (sz : Nat) (S1 : T2) (p1 : Int32) (p2 : Int32) (r : Int32) (hR : fX1_isReady S1 p1 p2 = some r) : Met l yX1_isReady wsX1_isReady ({ frames := 1, cells := 0, slots := 0, locals := 21 } : Room) (va_Pc [.ref (ad b1), .int p1, .int p2] (pW dC dI (tyL cs) (fl [(w_X1 ad (b1) cs S1)]) sz)) (QI dC dI (tyL cs) (va_A (fl [(w_X1 ad (b1) cs S1)]) sz) (fl [(w_X1 ad (b1) cs S1)]) r) 0 0 (va_A (fl [(w_X1 ad (b1) cs S1)]) sz) := by
  refine mt_of (own := RX1) (cc := cX1_isReady) (maxL := 3) (ret := (some .boolean)) (Qc := fun A => QI dC dI (tyL cs) A (fl [(w_X1 ad (b1) cs S1)]) r) rfl (by decide) rfl (Nat.le_of_ble_eq_true rfl) (fun p e s m below meth c A ls hsz hx hb hr hts hown hlocks hml hA hK hP hD hS hl => ?_)
  subst hsz
  have hl : lv_has ls 3 [(0, .ref (ad b1)), (1, .int p1), (2, .int p2)] := hl
  have hF11 := hts (.fieldLink RX1 11 "DockedBikes$Bicycles" "where" "[I") (List.mem_of_getElem? (i := 1) rfl)
  have hF27 := hts (.fieldLink RX1 27 "DockedBikes$Bicycles" "ready" "[I") (List.mem_of_getElem? (i := 2) rfl)
  have hinX1 : ∀ w ∈ wsX10, w ∈ wsX1_isReady := by decide +kernel
  refine lv_aload_n hx hb dX1_isReady_0 rfl (lv_at hl 0 rfl) ?_
  refine lv_iload_n hx hb dX1_isReady_1 rfl (lv_at hl 1 rfl) ?_
  replace hR := bd_e hR
  obtain ⟨q2, gq2, hR⟩ := hR
  refine cl_Vi (As := [.int p1]) (rest := []) (L := [(w_X1 ad (b1) cs S1)]) (L' := [(w_X1 ad (b1) cs S1)]) (Wc := [(w_X1 ad (b1) cs S1)]) (Wc' := [(w_X1 ad (b1) cs S1)]) (is := [0]) (js := []) ⟨hx, hb, hml, hown, hts⟩ (k_X1_has l dC dI cs ad (b1) s.heap.size S1 p1 q2 gq2) (cwV 1 hts gX1_isReady_X1_has rfl rfl rfl cd_X1_has ⟨Nat.le_of_ble_eq_true rfl, Nat.le_of_ble_eq_true rfl⟩) hK hP hD hS hA ⟨rfl, rfl, rfl, rfl, rfl, rfl⟩ (jn_nd (is := [0]) hD rfl rfl) 0 0 rfl rfl rfl rfl rfl hl.1 (Nat.le_of_ble_eq_true rfl) dX1_isReady_2 (fun H2 locs2 hP' hD' hS' => ?_)
  replace hS := hS'
  replace hP : va_P (dC, dI) vwCl (fl [(w_X1 ad (b1) cs S1)]) H2 := hP'
  replace hD : va_D A (fl [(w_X1 ad (b1) cs S1)]) := hD'
  clear hP' hD' hS'
  refine lv_if_eq (tgt := 32) hx hb dX1_isReady_5 (by decide) (fun c5 => ?_) (fun c5 => ?_)
  · replace hR := it_t hR c5
    refine lv_iconst (v := 0) hx hb dX1_isReady_32 ic_0 ?_
    replace hR := Option.some.inj hR
    have e9 := hR
    exact W.zret (ty := .boolean) hx hb hr (by decide) (fun t ht hW => ⟨⟨_, (), rfl, e9, by rw [ht]; exact hP, va_K.moved hW.alike hK, hD⟩, hS.F ht⟩) hS.2.2 dX1_isReady_33
  · replace hR := it_f hR c5
    refine lv_aload_n hx hb dX1_isReady_8 rfl (lv_at hl 0 rfl) ?_
    refine va_get (D := (dC, dI)) (ci := 0) (v := .ref (ad (b1 + 1))) (C := RX1) (T := TX1) (N := 7) hx hb hts hinX1 hown hK hP 0 rfl rfl 1 (by decide) hF11 (fun _ h9 => h9) rfl dX1_isReady_9 ?_
    refine lv_iload_n hx hb dX1_isReady_12 rfl (lv_at hl 1 rfl) ?_
    replace hR := gi_e hR
    obtain ⟨i13, hR⟩ := hR
    refine va_iald hx hb hK hP 1 0 rfl rfl i13 dX1_isReady_13 ?_
    refine lv_iconst (v := 3) hx hb dX1_isReady_14 ic_3 ?_
    refine lv_icmp_ne (tgt := 32) hx hb dX1_isReady_15 (by decide) (fun c15 => ?_) (fun c15 => ?_)
    · replace hR := it_f hR c15
      refine lv_iconst (v := 0) hx hb dX1_isReady_32 ic_0 ?_
      replace hR := Option.some.inj hR
      have e9 := hR
      exact W.zret (ty := .boolean) hx hb hr (by decide) (fun t ht hW => ⟨⟨_, (), rfl, e9, by rw [ht]; exact hP, va_K.moved hW.alike hK, hD⟩, hS.F ht⟩) hS.2.2 dX1_isReady_33
    · replace hR := it_t hR c15
      refine lv_aload_n hx hb dX1_isReady_18 rfl (lv_at hl 0 rfl) ?_
      refine va_get (D := (dC, dI)) (ci := 0) (v := .ref (ad (b1 + 6))) (C := RX1) (T := TX1) (N := 7) hx hb hts hinX1 hown hK hP 0 rfl rfl 6 (by decide) hF27 (fun _ h9 => h9) rfl dX1_isReady_19 ?_
      refine lv_iload_n hx hb dX1_isReady_22 rfl (lv_at hl 1 rfl) ?_
      replace hR := gi_e hR
      obtain ⟨i23, hR⟩ := hR
      refine va_iald hx hb hK hP 6 0 rfl rfl i23 dX1_isReady_23 ?_
      refine lv_iload_n hx hb dX1_isReady_24 rfl (lv_at hl 2 rfl) ?_
      refine lv_icmp_gt (tgt := 32) hx hb dX1_isReady_25 (by decide) (fun c25 => ?_) (fun c25 => ?_)
      · replace hR := it_t hR c25
        refine lv_iconst (v := 0) hx hb dX1_isReady_32 ic_0 ?_
        replace hR := Option.some.inj hR
        have e9 := hR
        exact W.zret (ty := .boolean) hx hb hr (by decide) (fun t ht hW => ⟨⟨_, (), rfl, e9, by rw [ht]; exact hP, va_K.moved hW.alike hK, hD⟩, hS.F ht⟩) hS.2.2 dX1_isReady_33
      · replace hR := it_f hR c25
        refine lv_iconst (v := 1) hx hb dX1_isReady_28 ic_1 ?_
        refine lv_goto (tgt := 33) hx hb dX1_isReady_29 (by decide) ?_
        replace hR := Option.some.inj hR
        have e9 := hR
        exact W.zret (ty := .boolean) hx hb hr (by decide) (fun t ht hW => ⟨⟨_, (), rfl, e9, by rw [ht]; exact hP, va_K.moved hW.alike hK, hD⟩, hS.F ht⟩) hS.2.2 dX1_isReady_33
set_option maxHeartbeats 8000000 in
set_option maxRecDepth 100000 in
theorem k_X1_renew (l : Launch) (dC : Nat → ClassId) (dI : Nat → Nat → Nat) (cs : Nat → ClassId) (ad : Nat → Nat) (b1 : Nat) (sz : Nat) (S1 : T2) (p1 : Int32) (u1 : T2) (hR : fX1_renew S1 p1 = some u1) : Met l yX1_renew wsX1_renew ({ frames := 1, cells := 0, slots := 0, locals := 21 } : Room) (va_Pc [.ref (ad b1), .int p1] (pW dC dI (tyL cs) (fl [(w_X1 ad (b1) cs S1)]) sz)) (QV dC dI (tyL cs) (va_A (fl [(w_X1 ad (b1) cs S1)]) sz) (fl [(w_X1 ad (b1) cs u1)])) 0 0 (va_A (fl [(w_X1 ad (b1) cs S1)]) sz) := by
  refine mt_of (own := RX1) (cc := cX1_renew) (maxL := 2) (ret := none) (Qc := fun A => QV dC dI (tyL cs) A (fl [(w_X1 ad (b1) cs u1)])) rfl (by decide) rfl (Nat.le_of_ble_eq_true rfl) (fun p e s m below meth c A ls hsz hx hb hr hts hown hlocks hml hA hK hP hD hS hl => ?_)
  subst hsz
  have hl : lv_has ls 2 [(0, .ref (ad b1)), (1, .int p1)] := hl
  have hF18 := hts (.fieldLink RX1 18 "DockedBikes$Bicycles" "minutes" "[I") (List.mem_of_getElem? (i := 2) rfl)
  have hF21 := hts (.fieldLink RX1 21 "DockedBikes$Bicycles" "faulty" "[I") (List.mem_of_getElem? (i := 1) rfl)
  have hinX1 : ∀ w ∈ wsX10, w ∈ wsX1_renew := by decide +kernel
  refine lv_aload_n hx hb dX1_renew_0 rfl (lv_at hl 0 rfl) ?_
  refine lv_iload_n hx hb dX1_renew_1 rfl (lv_at hl 1 rfl) ?_
  replace hR := bd_e hR
  obtain ⟨q2, gq2, hR⟩ := hR
  refine cl_Vi (As := [.int p1]) (rest := []) (L := [(w_X1 ad (b1) cs S1)]) (L' := [(w_X1 ad (b1) cs S1)]) (Wc := [(w_X1 ad (b1) cs S1)]) (Wc' := [(w_X1 ad (b1) cs S1)]) (is := [0]) (js := []) ⟨hx, hb, hml, hown, hts⟩ (k_X1_has l dC dI cs ad (b1) s.heap.size S1 p1 q2 gq2) (cwV 1 hts gX1_renew_X1_has rfl rfl rfl cd_X1_has ⟨Nat.le_of_ble_eq_true rfl, Nat.le_of_ble_eq_true rfl⟩) hK hP hD hS hA ⟨rfl, rfl, rfl, rfl, rfl, rfl⟩ (jn_nd (is := [0]) hD rfl rfl) 0 0 rfl rfl rfl rfl rfl hl.1 (Nat.le_of_ble_eq_true rfl) dX1_renew_2 (fun H2 locs2 hP' hD' hS' => ?_)
  replace hS := hS'
  replace hP : va_P (dC, dI) vwCl (fl [(w_X1 ad (b1) cs S1)]) H2 := hP'
  replace hD : va_D A (fl [(w_X1 ad (b1) cs S1)]) := hD'
  clear hP' hD' hS'
  refine lv_if_eq (tgt := 22) hx hb dX1_renew_5 (by decide) (fun c5 => ?_) (fun c5 => ?_)
  · replace hR := it_t hR c5
    replace hR := Option.some.inj hR
    have eu1 := hR
    replace hP : va_P (dC, dI) vwCl (fl [(w_X1 ad (b1) cs u1)]) H2 := by rw [← eu1]; exact hP
    replace hD : va_D A (fl [(w_X1 ad (b1) cs u1)]) := by rw [← eu1]; exact hD
    exact W.vret hx hb hr (fun t ht hW => ⟨⟨(), rfl, trivial, by rw [ht]; exact hP, va_K.moved hW.alike hK, hD⟩, hS.F ht⟩) hS.2.2 dX1_renew_22
  · replace hR := it_f hR c5
    refine lv_aload_n hx hb dX1_renew_8 rfl (lv_at hl 0 rfl) ?_
    refine va_get (D := (dC, dI)) (ci := 0) (v := .ref (ad (b1 + 4))) (C := RX1) (T := TX1) (N := 7) hx hb hts hinX1 hown hK hP 0 rfl rfl 4 (by decide) hF21 (fun _ h9 => h9) rfl dX1_renew_9 ?_
    refine lv_iload_n hx hb dX1_renew_12 rfl (lv_at hl 1 rfl) ?_
    refine lv_iconst (v := 0) hx hb dX1_renew_13 ic_0 ?_
    replace hR := gi_e hR
    obtain ⟨i14, hR⟩ := hR
    refine va_iast hx hb hK hP hD hS 4 0 rfl rfl i14 dX1_renew_14 (fun H14 locs14 hP' hD' hS' => ?_)
    replace hS := hS'
    have hP' : va_P (dC, dI) vwCl (fl [(w_X1 ad (b1) cs (sU S1 3 (sU (S1 3) p1.toNatClampNeg (0 : Int32))))]) H14 := hP'
    have hD' : va_D A (fl [(w_X1 ad (b1) cs (sU S1 3 (sU (S1 3) p1.toNatClampNeg (0 : Int32))))]) := hD'
    replace hR := bn_e hR
    obtain ⟨S1_14, eS1_14, hR⟩ := hR
    replace hP : va_P (dC, dI) vwCl (fl [(w_X1 ad (b1) cs S1_14)]) H14 := by rw [eS1_14]; exact hP'
    replace hD : va_D A (fl [(w_X1 ad (b1) cs S1_14)]) := by rw [eS1_14]; exact hD'
    clear hP' hD' hS'
    refine lv_aload_n hx hb dX1_renew_15 rfl (lv_at hl 0 rfl) ?_
    refine va_get (D := (dC, dI)) (ci := 0) (v := .ref (ad (b1 + 3))) (C := RX1) (T := TX1) (N := 7) hx hb hts hinX1 hown hK hP 0 rfl rfl 3 (by decide) hF18 (fun _ h9 => h9) rfl dX1_renew_16 ?_
    refine lv_iload_n hx hb dX1_renew_19 rfl (lv_at hl 1 rfl) ?_
    refine lv_iconst (v := 0) hx hb dX1_renew_20 ic_0 ?_
    replace hR := gi_e hR
    obtain ⟨i21, hR⟩ := hR
    refine va_iast hx hb hK hP hD hS 3 0 rfl rfl i21 dX1_renew_21 (fun H21 locs21 hP' hD' hS' => ?_)
    replace hS := hS'
    have hP' : va_P (dC, dI) vwCl (fl [(w_X1 ad (b1) cs (sU S1_14 2 (sU (S1_14 2) p1.toNatClampNeg (0 : Int32))))]) H21 := hP'
    have hD' : va_D A (fl [(w_X1 ad (b1) cs (sU S1_14 2 (sU (S1_14 2) p1.toNatClampNeg (0 : Int32))))]) := hD'
    replace hR := bn_e hR
    obtain ⟨S1_21, eS1_21, hR⟩ := hR
    replace hP : va_P (dC, dI) vwCl (fl [(w_X1 ad (b1) cs S1_21)]) H21 := by rw [eS1_21]; exact hP'
    replace hD : va_D A (fl [(w_X1 ad (b1) cs S1_21)]) := by rw [eS1_21]; exact hD'
    clear hP' hD' hS'
    replace hR := Option.some.inj hR
    have eu1 := hR
    replace hP : va_P (dC, dI) vwCl (fl [(w_X1 ad (b1) cs u1)]) H21 := by rw [← eu1]; exact hP
    replace hD : va_D A (fl [(w_X1 ad (b1) cs u1)]) := by rw [← eu1]; exact hD
    exact W.vret hx hb hr (fun t ht hW => ⟨⟨(), rfl, trivial, by rw [ht]; exact hP, va_K.moved hW.alike hK, hD⟩, hS.F ht⟩) hS.2.2 dX1_renew_22
set_option maxHeartbeats 8000000 in
set_option maxRecDepth 100000 in
theorem k_X6_allDocks (l : Launch) (dC : Nat → ClassId) (dI : Nat → Nat → Nat) (cs : Nat → ClassId) (ad : Nat → Nat) (b1 : Nat) (sz : Nat) (S1 : T2) (r : Int32) (hR : fX6_allDocks S1 = some r) : Met l yX6_allDocks wsX6_allDocks ({ frames := 0, cells := 0, slots := 0, locals := 0 } : Room) (va_Pc [.ref (ad b1)] (pW dC dI (tyL cs) (fl [(w_X6 ad (b1) cs S1)]) sz)) (QI dC dI (tyL cs) (va_A (fl [(w_X6 ad (b1) cs S1)]) sz) (fl [(w_X6 ad (b1) cs S1)]) r) 0 0 (va_A (fl [(w_X6 ad (b1) cs S1)]) sz) := by
  refine mt_of (own := RX6) (cc := cX6_allDocks) (maxL := 3) (ret := (some .int)) (Qc := fun A => QI dC dI (tyL cs) A (fl [(w_X6 ad (b1) cs S1)]) r) rfl (by decide) rfl (Nat.le_of_ble_eq_true rfl) (fun p e s m below meth c A ls hsz hx hb hr hts hown hlocks hml hA hK hP hD hS hl => ?_)
  subst hsz
  have hl : lv_has ls 3 [(0, .ref (ad b1))] := hl
  have hF15 := hts (.fieldLink RX6 15 "DockedBikes$Stations" "docks" "[I") (List.mem_of_getElem? (i := 2) rfl)
  have hF24 := hts (.fieldLink RX6 24 "DockedBikes$Stations" "size" "I") (List.mem_of_getElem? (i := 1) rfl)
  have hinX6 : ∀ w ∈ wsX60, w ∈ wsX6_allDocks := by decide +kernel
  have hB4 : ∀ (n4 : Nat), ∀ (v1_4 : Int32) (v2_4 : Int32) (H : Heap) (locs : List Loc) (ls : Array Slot), fX6_allDocks_4 S1 n4 v1_4 v2_4 = some r → va_P (dC, dI) vwCl (fl [(w_X6 ad (b1) cs S1)]) H → va_D A (fl [(w_X6 ad (b1) cs S1)]) → va_S A s.heap H locs → lv_has ls 3 [(0, .ref (ad b1)), (1, .int v1_4), (2, .int v2_4)] → W p l e (headSpec wsX6_allDocks ({ frames := 0, cells := 0, slots := 0, locals := 0 } : Room)).room s m ([.ref (ad b1)] : List Value).toArray below meth c H locs 0 0 (MQ below (QI dC dI (tyL cs) A (fl [(w_X6 ad (b1) cs S1)]) r) ([.ref (ad b1)] : List Value).toArray s 0 0 A) (F0 m 4 ls []) := by
    intro n4
    induction n4 with
    | zero =>
      intro v1_4 v2_4 H locs ls hR hP hD hS hl
      exact nn_e hR
    | succ n4 hI4 =>
      intro v1_4 v2_4 H locs ls hR hP hD hS hl
      rw [fX6_allDocks_4] at hR
      refine lv_iload_n hx hb dX6_allDocks_4 rfl (lv_at hl 2 rfl) ?_
      refine lv_aload_n hx hb dX6_allDocks_5 rfl (lv_at hl 0 rfl) ?_
      refine va_get (D := (dC, dI)) (ci := 5) (v := .int (S1 4 0)) (C := RX6) (T := TX6) (N := 5) hx hb hts hinX6 hown hK hP 0 rfl rfl 0 (by decide) hF24 (fun _ h9 => h9) rfl dX6_allDocks_6 ?_
      refine lv_icmp_ge (tgt := 27) hx hb dX6_allDocks_9 (by decide) (fun c9 => ?_) (fun c9 => ?_)
      · replace hR := it_t hR c9
        refine lv_iload_n hx hb dX6_allDocks_27 rfl (lv_at hl 1 rfl) ?_
        replace hR := Option.some.inj hR
        have e9 := hR
        exact W.iret hx hb hr (fun t ht hW => ⟨⟨_, (), rfl, e9, by rw [ht]; exact hP, va_K.moved hW.alike hK, hD⟩, hS.F ht⟩) hS.2.2 dX6_allDocks_28
      · replace hR := it_f hR c9
        refine lv_iload_n hx hb dX6_allDocks_12 rfl (lv_at hl 1 rfl) ?_
        refine lv_aload_n hx hb dX6_allDocks_13 rfl (lv_at hl 0 rfl) ?_
        refine va_get (D := (dC, dI)) (ci := 5) (v := .ref (ad (b1 + 2))) (C := RX6) (T := TX6) (N := 5) hx hb hts hinX6 hown hK hP 0 rfl rfl 2 (by decide) hF15 (fun _ h9 => h9) rfl dX6_allDocks_14 ?_
        refine lv_iload_n hx hb dX6_allDocks_17 rfl (lv_at hl 2 rfl) ?_
        replace hR := gi_e hR
        obtain ⟨i18, hR⟩ := hR
        refine va_iald hx hb hK hP 2 0 rfl rfl i18 dX6_allDocks_18 ?_
        refine lv_iadd hx hb dX6_allDocks_19 ?_
        refine lv_istore_n (lv' := [(1, .int (v1_4 + (S1 1 v2_4.toNatClampNeg))), (0, .ref (ad b1)), (2, .int v2_4)]) hx hb dX6_allDocks_20 rfl hl (Nat.le_of_ble_eq_true rfl) rfl (fun ls hl => ?_)
        refine lv_iinc (v := (v2_4 + 1)) (lv' := [(2, .int (v2_4 + 1)), (1, .int (v1_4 + (S1 1 v2_4.toNatClampNeg))), (0, .ref (ad b1))]) hx hb dX6_allDocks_21 hl (k := 2) rfl rfl (Nat.le_of_ble_eq_true rfl) rfl (fun ls hl => ?_)
        refine lv_goto (tgt := 4) hx hb dX6_allDocks_24 (by decide) ?_
        exact hI4 (v1_4 + (S1 1 v2_4.toNatClampNeg)) (v2_4 + 1) H _ ls hR hP hD hS (lv_sub hl [2, 1, 0] rfl)
  refine lv_iconst (v := 0) hx hb dX6_allDocks_0 ic_0 ?_
  refine lv_istore_n (lv' := [(1, .int (0 : Int32)), (0, .ref (ad b1))]) hx hb dX6_allDocks_1 rfl hl (Nat.le_of_ble_eq_true rfl) rfl (fun ls hl => ?_)
  refine lv_iconst (v := 0) hx hb dX6_allDocks_2 ic_0 ?_
  refine lv_istore_n (lv' := [(2, .int (0 : Int32)), (1, .int (0 : Int32)), (0, .ref (ad b1))]) hx hb dX6_allDocks_3 rfl hl (Nat.le_of_ble_eq_true rfl) rfl (fun ls hl => ?_)
  exact hB4 fuel (0 : Int32) (0 : Int32) s.heap _ ls hR hP hD hS (lv_sub hl [2, 1, 0] rfl)
set_option maxHeartbeats 8000000 in
set_option maxRecDepth 100000 in
theorem k_X2_findAims (l : Launch) (dC : Nat → ClassId) (dI : Nat → Nat → Nat) (cs : Nat → ClassId) (ad : Nat → Nat) (b1 b2 : Nat) (sz : Nat) (S1 : T2) (S2 : T3) (u1 : T2) (hR : fX2_findAims S1 S2 = some u1) : Met l yX2_findAims wsX2_findAims ({ frames := 1, cells := 0, slots := 0, locals := 23 } : Room) (va_Pc [.ref (ad b1), .ref (ad b2)] (pW dC dI (tyL cs) (fl [(w_X2 ad (b1) cs S1), (w_X5 ad (b2) cs S2)]) sz)) (QV dC dI (tyL cs) (va_A (fl [(w_X2 ad (b1) cs S1), (w_X5 ad (b2) cs S2)]) sz) (fl [(w_X2 ad (b1) cs u1), (w_X5 ad (b2) cs S2)])) 0 0 (va_A (fl [(w_X2 ad (b1) cs S1), (w_X5 ad (b2) cs S2)]) sz) := by
  refine mt_of (own := RX2) (cc := cX2_findAims) (maxL := 6) (ret := none) (Qc := fun A => QV dC dI (tyL cs) A (fl [(w_X2 ad (b1) cs u1), (w_X5 ad (b2) cs S2)])) rfl (by decide) rfl (Nat.le_of_ble_eq_true rfl) (fun p e s m below meth c A ls hsz hx hb hr hts hown hlocks hml hA hK hP hD hS hl => ?_)
  subst hsz
  have hl : lv_has ls 6 [(0, .ref (ad b1)), (1, .ref (ad b2))] := hl
  have hF9 := hts (.fieldLink RX2 9 "DockedBikes$Filling" "aims" "[I") (List.mem_of_getElem? (i := 4) rfl)
  have hF22 := hts (.fieldLink RX2 22 "DockedBikes$Road" "stations" "LDockedBikes$Stations;") (List.mem_of_getElem? (i := 1) rfl)
  have hF45 := hts (.fieldLink RX2 45 "DockedBikes$Stations" "size" "I") (List.mem_of_getElem? (i := 3) rfl)
  have hF72 := hts (.fieldLink RX2 72 "DockedBikes$Road" "bicycles" "LDockedBikes$Bicycles;") (List.mem_of_getElem? (i := 2) rfl)
  have hF81 := hts (.fieldLink RX2 81 "DockedBikes$Stations" "docks" "[I") (List.mem_of_getElem? (i := 5) rfl)
  have hinX2 : ∀ w ∈ wsX20, w ∈ wsX2_findAims := by decide +kernel
  have hinX5 : ∀ w ∈ wsX50, w ∈ wsX2_findAims := by decide +kernel
  have hinX6 : ∀ w ∈ wsX60, w ∈ wsX2_findAims := by decide +kernel
  have hB85 : ∀ (n85 : Nat), ∀ (S1_85h : T2) (v4_85 : Int32) (v5_85 : Int32) (H : Heap) (locs : List Loc) (ls : Array Slot), fX2_findAims_85 S2 n85 S1_85h v4_85 v5_85 = some u1 → va_P (dC, dI) vwCl (fl [(w_X2 ad (b1) cs S1_85h), (w_X5 ad (b2) cs S2)]) H → va_D A (fl [(w_X2 ad (b1) cs S1_85h), (w_X5 ad (b2) cs S2)]) → va_S A s.heap H locs → lv_has ls 6 [(0, .ref (ad b1)), (1, .ref (ad b2)), (4, .int v4_85), (5, .int v5_85)] → W p l e (headSpec wsX2_findAims ({ frames := 1, cells := 0, slots := 0, locals := 23 } : Room)).room s m ([.ref (ad b1), .ref (ad b2)] : List Value).toArray below meth c H locs 0 0 (MQ below (QV dC dI (tyL cs) A (fl [(w_X2 ad (b1) cs u1), (w_X5 ad (b2) cs S2)])) ([.ref (ad b1), .ref (ad b2)] : List Value).toArray s 0 0 A) (F0 m 85 ls []) := by
    intro n85
    induction n85 with
    | zero =>
      intro S1_85h v4_85 v5_85 H locs ls hR hP hD hS hl
      exact nn_e hR
    | succ n85 hI85 =>
      intro S1_85h v4_85 v5_85 H locs ls hR hP hD hS hl
      rw [fX2_findAims_85] at hR
      refine lv_iload hx hb dX2_findAims_85 (lv_at hl 3 rfl) ?_
      refine lv_aload_n hx hb dX2_findAims_87 rfl (lv_at hl 1 rfl) ?_
      refine va_get (D := (dC, dI)) (ci := 4) (v := .ref (ad (b2 + 1))) (C := RX5) (T := TX5) (N := 6) hx hb hts hinX5 hown hK hP 3 rfl rfl 0 (by decide) hF22 (fun _ h9 => h9) rfl dX2_findAims_88 ?_
      refine va_get (D := (dC, dI)) (ci := 5) (v := .int (S2 0 4 0)) (C := RX6) (T := TX6) (N := 5) hx hb hts hinX6 hown hK hP 4 rfl rfl 0 (by decide) hF45 (fun _ h9 => h9) rfl dX2_findAims_91 ?_
      refine lv_icmp_ge (tgt := 121) hx hb dX2_findAims_94 (by decide) (fun c94 => ?_) (fun c94 => ?_)
      · replace hR := it_t hR c94
        replace hR := Option.some.inj hR
        have eu1 := hR
        replace hP : va_P (dC, dI) vwCl (fl [(w_X2 ad (b1) cs u1), (w_X5 ad (b2) cs S2)]) H := by rw [← eu1]; exact hP
        replace hD : va_D A (fl [(w_X2 ad (b1) cs u1), (w_X5 ad (b2) cs S2)]) := by rw [← eu1]; exact hD
        exact W.vret hx hb hr (fun t ht hW => ⟨⟨(), rfl, trivial, by rw [ht]; exact hP, va_K.moved hW.alike hK, hD⟩, hS.F ht⟩) hS.2.2 dX2_findAims_121
      · replace hR := it_f hR c94
        refine lv_iload hx hb dX2_findAims_97 (lv_at hl 3 rfl) ?_
        refine lv_iload hx hb dX2_findAims_99 (lv_at hl 2 rfl) ?_
        refine lv_icmp_ge (tgt := 121) hx hb dX2_findAims_101 (by decide) (fun c101 => ?_) (fun c101 => ?_)
        · replace hR := it_t hR c101
          replace hR := Option.some.inj hR
          have eu1 := hR
          replace hP : va_P (dC, dI) vwCl (fl [(w_X2 ad (b1) cs u1), (w_X5 ad (b2) cs S2)]) H := by rw [← eu1]; exact hP
          replace hD : va_D A (fl [(w_X2 ad (b1) cs u1), (w_X5 ad (b2) cs S2)]) := by rw [← eu1]; exact hD
          exact W.vret hx hb hr (fun t ht hW => ⟨⟨(), rfl, trivial, by rw [ht]; exact hP, va_K.moved hW.alike hK, hD⟩, hS.F ht⟩) hS.2.2 dX2_findAims_121
        · replace hR := it_f hR c101
          refine lv_aload_n hx hb dX2_findAims_104 rfl (lv_at hl 0 rfl) ?_
          refine va_get (D := (dC, dI)) (ci := 1) (v := .ref (ad (b1 + 1))) (C := RX2) (T := TX2) (N := 6) hx hb hts hinX2 hown hK hP 0 rfl rfl 4 (by decide) hF9 (fun _ h9 => h9) rfl dX2_findAims_105 ?_
          refine lv_iload hx hb dX2_findAims_108 (lv_at hl 3 rfl) ?_
          refine lv_dup2_11 hx hb dX2_findAims_110 rfl rfl ?_
          replace hR := gi_e hR
          obtain ⟨i111, hR⟩ := hR
          refine va_iald hx hb hK hP 1 0 rfl rfl i111 dX2_findAims_111 ?_
          refine lv_iconst (v := 1) hx hb dX2_findAims_112 ic_1 ?_
          refine lv_iadd hx hb dX2_findAims_113 ?_
          replace hR := gi_e hR
          obtain ⟨i114, hR⟩ := hR
          refine va_iast hx hb hK hP hD hS 1 0 rfl rfl i114 dX2_findAims_114 (fun H114 locs114 hP' hD' hS' => ?_)
          replace hS := hS'
          have hP' : va_P (dC, dI) vwCl (fl [(w_X2 ad (b1) cs (sU S1_85h 0 (sU (S1_85h 0) v5_85.toNatClampNeg ((S1_85h 0 v5_85.toNatClampNeg) + 1)))), (w_X5 ad (b2) cs S2)]) H114 := hP'
          have hD' : va_D A (fl [(w_X2 ad (b1) cs (sU S1_85h 0 (sU (S1_85h 0) v5_85.toNatClampNeg ((S1_85h 0 v5_85.toNatClampNeg) + 1)))), (w_X5 ad (b2) cs S2)]) := hD'
          replace hR := bn_e hR
          obtain ⟨S1_114, eS1_114, hR⟩ := hR
          replace hP : va_P (dC, dI) vwCl (fl [(w_X2 ad (b1) cs S1_114), (w_X5 ad (b2) cs S2)]) H114 := by rw [eS1_114]; exact hP'
          replace hD : va_D A (fl [(w_X2 ad (b1) cs S1_114), (w_X5 ad (b2) cs S2)]) := by rw [eS1_114]; exact hD'
          clear hP' hD' hS'
          refine lv_iinc (v := (v5_85 + 1)) (lv' := [(5, .int (v5_85 + 1)), (0, .ref (ad b1)), (1, .ref (ad b2)), (4, .int v4_85)]) hx hb dX2_findAims_115 hl (k := 3) rfl rfl (Nat.le_of_ble_eq_true rfl) rfl (fun ls hl => ?_)
          refine lv_goto (tgt := 85) hx hb dX2_findAims_118 (by decide) ?_
          exact hI85 S1_114 v4_85 (v5_85 + 1) H114 _ ls hR hP hD hS (lv_sub hl [1, 2, 3, 0] rfl)
  have hB23 : ∀ (n23 : Nat), ∀ (S1_23h : T2) (v2_23 : Int32) (v3_23 : Int32) (v4_23 : Int32) (v5_23 : Int32) (H : Heap) (locs : List Loc) (ls : Array Slot), fX2_findAims_23 S2 n23 S1_23h v2_23 v3_23 v4_23 v5_23 = some u1 → va_P (dC, dI) vwCl (fl [(w_X2 ad (b1) cs S1_23h), (w_X5 ad (b2) cs S2)]) H → va_D A (fl [(w_X2 ad (b1) cs S1_23h), (w_X5 ad (b2) cs S2)]) → va_S A s.heap H locs → lv_has ls 6 [(0, .ref (ad b1)), (1, .ref (ad b2)), (2, .int v2_23), (3, .int v3_23), (4, .int v4_23), (5, .int v5_23)] → W p l e (headSpec wsX2_findAims ({ frames := 1, cells := 0, slots := 0, locals := 23 } : Room)).room s m ([.ref (ad b1), .ref (ad b2)] : List Value).toArray below meth c H locs 0 0 (MQ below (QV dC dI (tyL cs) A (fl [(w_X2 ad (b1) cs u1), (w_X5 ad (b2) cs S2)])) ([.ref (ad b1), .ref (ad b2)] : List Value).toArray s 0 0 A) (F0 m 23 ls []) := by
    intro n23
    induction n23 with
    | zero =>
      intro S1_23h v2_23 v3_23 v4_23 v5_23 H locs ls hR hP hD hS hl
      exact nn_e hR
    | succ n23 hI23 =>
      have hB63 : ∀ (S1_63h : T2) (v2_63 : Int32) (v3_63 : Int32) (v4_63 : Int32) (v5_63 : Int32) (t1_63 : Int32) (t2_63 : Int32) (H : Heap) (locs : List Loc) (ls : Array Slot), fX2_findAims_63 (fX2_findAims_23 S2 n23) S2 S1_63h v2_63 v3_63 v4_63 v5_63 t1_63 t2_63 = some u1 → va_P (dC, dI) vwCl (fl [(w_X2 ad (b1) cs S1_63h), (w_X5 ad (b2) cs S2)]) H → va_D A (fl [(w_X2 ad (b1) cs S1_63h), (w_X5 ad (b2) cs S2)]) → va_S A s.heap H locs → lv_has ls 6 [(0, .ref (ad b1)), (1, .ref (ad b2)), (2, .int v2_63), (3, .int v3_63), (4, .int v4_63), (5, .int v5_63)] → W p l e (headSpec wsX2_findAims ({ frames := 1, cells := 0, slots := 0, locals := 23 } : Room)).room s m ([.ref (ad b1), .ref (ad b2)] : List Value).toArray below meth c H locs 0 0 (MQ below (QV dC dI (tyL cs) A (fl [(w_X2 ad (b1) cs u1), (w_X5 ad (b2) cs S2)])) ([.ref (ad b1), .ref (ad b2)] : List Value).toArray s 0 0 A) (F0 m 63 ls [.int t2_63, .int t1_63, .ref (ad (b1 + 1))]) := by
        intro S1_63h v2_63 v3_63 v4_63 v5_63 t1_63 t2_63 H locs ls hR hP hD hS hl
        replace hR := gi_e hR
        obtain ⟨i63, hR⟩ := hR
        refine va_iast hx hb hK hP hD hS 1 0 rfl rfl i63 dX2_findAims_63 (fun H63 locs63 hP' hD' hS' => ?_)
        replace hS := hS'
        have hP' : va_P (dC, dI) vwCl (fl [(w_X2 ad (b1) cs (sU S1_63h 0 (sU (S1_63h 0) t1_63.toNatClampNeg t2_63))), (w_X5 ad (b2) cs S2)]) H63 := hP'
        have hD' : va_D A (fl [(w_X2 ad (b1) cs (sU S1_63h 0 (sU (S1_63h 0) t1_63.toNatClampNeg t2_63))), (w_X5 ad (b2) cs S2)]) := hD'
        replace hR := bn_e hR
        obtain ⟨S1_63, eS1_63, hR⟩ := hR
        replace hP : va_P (dC, dI) vwCl (fl [(w_X2 ad (b1) cs S1_63), (w_X5 ad (b2) cs S2)]) H63 := by rw [eS1_63]; exact hP'
        replace hD : va_D A (fl [(w_X2 ad (b1) cs S1_63), (w_X5 ad (b2) cs S2)]) := by rw [eS1_63]; exact hD'
        clear hP' hD' hS'
        refine lv_iload hx hb dX2_findAims_64 (lv_at hl 4 rfl) ?_
        refine lv_aload_n hx hb dX2_findAims_66 rfl (lv_at hl 0 rfl) ?_
        refine va_get (D := (dC, dI)) (ci := 1) (v := .ref (ad (b1 + 1))) (C := RX2) (T := TX2) (N := 6) hx hb hts hinX2 hown hK hP 0 rfl rfl 4 (by decide) hF9 (fun _ h9 => h9) rfl dX2_findAims_67 ?_
        refine lv_iload hx hb dX2_findAims_70 (lv_at hl 5 rfl) ?_
        replace hR := gi_e hR
        obtain ⟨i72, hR⟩ := hR
        refine va_iald hx hb hK hP 1 0 rfl rfl i72 dX2_findAims_72 ?_
        refine lv_isub hx hb dX2_findAims_73 ?_
        refine lv_istore (lv' := [(4, .int (v4_63 - (S1_63 0 v5_63.toNatClampNeg))), (0, .ref (ad b1)), (1, .ref (ad b2)), (2, .int v2_63), (3, .int v3_63), (5, .int v5_63)]) hx hb dX2_findAims_74 hl (Nat.le_of_ble_eq_true rfl) rfl (fun ls hl => ?_)
        refine lv_iinc (v := (v5_63 + 1)) (lv' := [(5, .int (v5_63 + 1)), (4, .int (v4_63 - (S1_63 0 v5_63.toNatClampNeg))), (0, .ref (ad b1)), (1, .ref (ad b2)), (2, .int v2_63), (3, .int v3_63)]) hx hb dX2_findAims_76 hl (k := 5) rfl rfl (Nat.le_of_ble_eq_true rfl) rfl (fun ls hl => ?_)
        refine lv_goto (tgt := 23) hx hb dX2_findAims_79 (by decide) ?_
        exact hI23 S1_63 v2_63 v3_63 (v4_63 - (S1_63 0 v5_63.toNatClampNeg)) (v5_63 + 1) H63 _ ls hR hP hD hS (lv_sub hl [2, 3, 4, 5, 1, 0] rfl)
      intro S1_23h v2_23 v3_23 v4_23 v5_23 H locs ls hR hP hD hS hl
      rw [fX2_findAims_23] at hR
      refine lv_iload hx hb dX2_findAims_23 (lv_at hl 5 rfl) ?_
      refine lv_aload_n hx hb dX2_findAims_25 rfl (lv_at hl 1 rfl) ?_
      refine va_get (D := (dC, dI)) (ci := 4) (v := .ref (ad (b2 + 1))) (C := RX5) (T := TX5) (N := 6) hx hb hts hinX5 hown hK hP 3 rfl rfl 0 (by decide) hF22 (fun _ h9 => h9) rfl dX2_findAims_26 ?_
      refine va_get (D := (dC, dI)) (ci := 5) (v := .int (S2 0 4 0)) (C := RX6) (T := TX6) (N := 5) hx hb hts hinX6 hown hK hP 4 rfl rfl 0 (by decide) hF45 (fun _ h9 => h9) rfl dX2_findAims_29 ?_
      refine lv_icmp_ge (tgt := 82) hx hb dX2_findAims_32 (by decide) (fun c32 => ?_) (fun c32 => ?_)
      · replace hR := it_t hR c32
        refine lv_iconst (v := 0) hx hb dX2_findAims_82 ic_0 ?_
        refine lv_istore (lv' := [(5, .int (0 : Int32)), (0, .ref (ad b1)), (1, .ref (ad b2)), (2, .int v2_23), (3, .int v3_23), (4, .int v4_23)]) hx hb dX2_findAims_83 hl (Nat.le_of_ble_eq_true rfl) rfl (fun ls hl => ?_)
        exact hB85 fuel S1_23h v4_23 (0 : Int32) H _ ls hR hP hD hS (lv_sub hl [1, 2, 5, 0] rfl)
      · replace hR := it_f hR c32
        refine lv_aload_n hx hb dX2_findAims_35 rfl (lv_at hl 0 rfl) ?_
        refine va_get (D := (dC, dI)) (ci := 1) (v := .ref (ad (b1 + 1))) (C := RX2) (T := TX2) (N := 6) hx hb hts hinX2 hown hK hP 0 rfl rfl 4 (by decide) hF9 (fun _ h9 => h9) rfl dX2_findAims_36 ?_
        refine lv_iload hx hb dX2_findAims_39 (lv_at hl 5 rfl) ?_
        refine lv_iload_n hx hb dX2_findAims_41 rfl (lv_at hl 2 rfl) ?_
        refine lv_if_le (tgt := 62) hx hb dX2_findAims_42 (by decide) (fun c42 => ?_) (fun c42 => ?_)
        · replace hR := it_t hR c42
          refine lv_iconst (v := 0) hx hb dX2_findAims_62 ic_0 ?_
          exact hB63 S1_23h v2_23 v3_23 v4_23 v5_23 v5_23 (0 : Int32) H _ ls hR hP hD hS (lv_sub hl [0, 1, 2, 3, 4, 5] rfl)
        · replace hR := it_f hR c42
          refine lv_aload_n hx hb dX2_findAims_45 rfl (lv_at hl 1 rfl) ?_
          refine va_get (D := (dC, dI)) (ci := 4) (v := .ref (ad (b2 + 1))) (C := RX5) (T := TX5) (N := 6) hx hb hts hinX5 hown hK hP 3 rfl rfl 0 (by decide) hF22 (fun _ h9 => h9) rfl dX2_findAims_46 ?_
          refine va_get (D := (dC, dI)) (ci := 5) (v := .ref (ad (b2 + 1 + 2))) (C := RX6) (T := TX6) (N := 5) hx hb hts hinX6 hown hK hP 4 rfl rfl 2 (by decide) hF81 (fun _ h9 => h9) rfl dX2_findAims_49 ?_
          refine lv_iload hx hb dX2_findAims_52 (lv_at hl 5 rfl) ?_
          replace hR := gi_e hR
          obtain ⟨i54, hR⟩ := hR
          refine va_iald hx hb hK hP 6 0 rfl rfl i54 dX2_findAims_54 ?_
          refine lv_iload_n hx hb dX2_findAims_55 rfl (lv_at hl 3 rfl) ?_
          refine lv_imul hx hb dX2_findAims_56 ?_
          refine lv_iload_n hx hb dX2_findAims_57 rfl (lv_at hl 2 rfl) ?_
          replace hR := nz_e hR
          obtain ⟨z58, hR⟩ := hR
          refine lv_idiv hx hb dX2_findAims_58 z58 ?_
          refine lv_goto (tgt := 63) hx hb dX2_findAims_59 (by decide) ?_
          exact hB63 S1_23h v2_23 v3_23 v4_23 v5_23 v5_23 (((S2 0 1 v5_23.toNatClampNeg) * v3_23) / v2_23) H _ ls hR hP hD hS (lv_sub hl [0, 1, 2, 3, 4, 5] rfl)
  refine lv_aload_n hx hb dX2_findAims_0 rfl (lv_at hl 1 rfl) ?_
  refine va_get (D := (dC, dI)) (ci := 4) (v := .ref (ad (b2 + 1))) (C := RX5) (T := TX5) (N := 6) hx hb hts hinX5 hown hK hP 3 rfl rfl 0 (by decide) hF22 (fun _ h9 => h9) rfl dX2_findAims_1 ?_
  replace hR := bd_e hR
  obtain ⟨q4, gq4, hR⟩ := hR
  replace hP : va_P (dC, dI) vwCl (fl [(w_X2 ad (b1) cs S1), [((ad b2), .inr (4, [.ref (ad (b2 + 1)), .ref (ad (b2 + 6)), .ref (ad (b2 + 13)), .ref (ad (b2 + 23)), .ref (ad (b2 + 27)), .int (S2 4 1 0)]))], (w_X6 ad (b2 + 1) cs (S2 0)), (w_X1 ad (b2 + 6) cs (S2 1)), (w_X4 ad (b2 + 13) cs (S2 2)), (w_X8 ad (b2 + 23) cs (S2 3)), [((ad (b2 + 27)), .inl (cs 0, 3, .inl (S2 4 0)))]]) s.heap := hP
  replace hD : va_D A (fl [(w_X2 ad (b1) cs S1), [((ad b2), .inr (4, [.ref (ad (b2 + 1)), .ref (ad (b2 + 6)), .ref (ad (b2 + 13)), .ref (ad (b2 + 23)), .ref (ad (b2 + 27)), .int (S2 4 1 0)]))], (w_X6 ad (b2 + 1) cs (S2 0)), (w_X1 ad (b2 + 6) cs (S2 1)), (w_X4 ad (b2 + 13) cs (S2 2)), (w_X8 ad (b2 + 23) cs (S2 3)), [((ad (b2 + 27)), .inl (cs 0, 3, .inl (S2 4 0)))]]) := hD
  refine cl_Vi (As := []) (rest := []) (L := [(w_X2 ad (b1) cs S1), [((ad b2), .inr (4, [.ref (ad (b2 + 1)), .ref (ad (b2 + 6)), .ref (ad (b2 + 13)), .ref (ad (b2 + 23)), .ref (ad (b2 + 27)), .int (S2 4 1 0)]))], (w_X6 ad (b2 + 1) cs (S2 0)), (w_X1 ad (b2 + 6) cs (S2 1)), (w_X4 ad (b2 + 13) cs (S2 2)), (w_X8 ad (b2 + 23) cs (S2 3)), [((ad (b2 + 27)), .inl (cs 0, 3, .inl (S2 4 0)))]]) (L' := [(w_X2 ad (b1) cs S1), [((ad b2), .inr (4, [.ref (ad (b2 + 1)), .ref (ad (b2 + 6)), .ref (ad (b2 + 13)), .ref (ad (b2 + 23)), .ref (ad (b2 + 27)), .int (S2 4 1 0)]))], (w_X6 ad (b2 + 1) cs (S2 0)), (w_X1 ad (b2 + 6) cs (S2 1)), (w_X4 ad (b2 + 13) cs (S2 2)), (w_X8 ad (b2 + 23) cs (S2 3)), [((ad (b2 + 27)), .inl (cs 0, 3, .inl (S2 4 0)))]]) (Wc := [(w_X6 ad (b2 + 1) cs (S2 0))]) (Wc' := [(w_X6 ad (b2 + 1) cs (S2 0))]) (is := [2]) (js := [0, 1, 3, 4, 5, 6]) ⟨hx, hb, hml, hown, hts⟩ (k_X6_allDocks l dC dI cs ad (b2 + 1) s.heap.size (S2 0) q4 gq4) (cwV 0 hts gX2_findAims_X6_allDocks rfl rfl rfl cd_X6_allDocks ⟨Nat.le_of_ble_eq_true rfl, Nat.le_of_ble_eq_true rfl⟩) hK hP hD hS hA ⟨rfl, rfl, rfl, rfl, rfl, rfl⟩ (jn_nd (is := [2]) hD rfl rfl) 4 5 rfl rfl rfl rfl rfl hl.1 (Nat.le_of_ble_eq_true rfl) dX2_findAims_4 (fun H4 locs4 hP' hD' hS' => ?_)
  replace hS := hS'
  replace hP : va_P (dC, dI) vwCl (fl [(w_X2 ad (b1) cs S1), (w_X5 ad (b2) cs S2)]) H4 := hP'
  replace hD : va_D A (fl [(w_X2 ad (b1) cs S1), (w_X5 ad (b2) cs S2)]) := hD'
  clear hP' hD' hS'
  refine lv_istore_n (lv' := [(2, .int q4), (0, .ref (ad b1)), (1, .ref (ad b2))]) hx hb dX2_findAims_7 rfl hl (Nat.le_of_ble_eq_true rfl) rfl (fun ls hl => ?_)
  refine lv_aload_n hx hb dX2_findAims_8 rfl (lv_at hl 2 rfl) ?_
  refine va_get (D := (dC, dI)) (ci := 4) (v := .ref (ad (b2 + 6))) (C := RX5) (T := TX5) (N := 6) hx hb hts hinX5 hown hK hP 3 rfl rfl 1 (by decide) hF72 (fun _ h9 => h9) rfl dX2_findAims_9 ?_
  refine lv_iconst (v := 0) hx hb dX2_findAims_12 ic_0 ?_
  replace hR := bd_e hR
  obtain ⟨q13, gq13, hR⟩ := hR
  replace hP : va_P (dC, dI) vwCl (fl [(w_X2 ad (b1) cs S1), [((ad b2), .inr (4, [.ref (ad (b2 + 1)), .ref (ad (b2 + 6)), .ref (ad (b2 + 13)), .ref (ad (b2 + 23)), .ref (ad (b2 + 27)), .int (S2 4 1 0)]))], (w_X6 ad (b2 + 1) cs (S2 0)), (w_X1 ad (b2 + 6) cs (S2 1)), (w_X4 ad (b2 + 13) cs (S2 2)), (w_X8 ad (b2 + 23) cs (S2 3)), [((ad (b2 + 27)), .inl (cs 0, 3, .inl (S2 4 0)))]]) H4 := hP
  replace hD : va_D A (fl [(w_X2 ad (b1) cs S1), [((ad b2), .inr (4, [.ref (ad (b2 + 1)), .ref (ad (b2 + 6)), .ref (ad (b2 + 13)), .ref (ad (b2 + 23)), .ref (ad (b2 + 27)), .int (S2 4 1 0)]))], (w_X6 ad (b2 + 1) cs (S2 0)), (w_X1 ad (b2 + 6) cs (S2 1)), (w_X4 ad (b2 + 13) cs (S2 2)), (w_X8 ad (b2 + 23) cs (S2 3)), [((ad (b2 + 27)), .inl (cs 0, 3, .inl (S2 4 0)))]]) := hD
  refine cl_Vi (As := [.int (0 : Int32)]) (rest := []) (L := [(w_X2 ad (b1) cs S1), [((ad b2), .inr (4, [.ref (ad (b2 + 1)), .ref (ad (b2 + 6)), .ref (ad (b2 + 13)), .ref (ad (b2 + 23)), .ref (ad (b2 + 27)), .int (S2 4 1 0)]))], (w_X6 ad (b2 + 1) cs (S2 0)), (w_X1 ad (b2 + 6) cs (S2 1)), (w_X4 ad (b2 + 13) cs (S2 2)), (w_X8 ad (b2 + 23) cs (S2 3)), [((ad (b2 + 27)), .inl (cs 0, 3, .inl (S2 4 0)))]]) (L' := [(w_X2 ad (b1) cs S1), [((ad b2), .inr (4, [.ref (ad (b2 + 1)), .ref (ad (b2 + 6)), .ref (ad (b2 + 13)), .ref (ad (b2 + 23)), .ref (ad (b2 + 27)), .int (S2 4 1 0)]))], (w_X6 ad (b2 + 1) cs (S2 0)), (w_X1 ad (b2 + 6) cs (S2 1)), (w_X4 ad (b2 + 13) cs (S2 2)), (w_X8 ad (b2 + 23) cs (S2 3)), [((ad (b2 + 27)), .inl (cs 0, 3, .inl (S2 4 0)))]]) (Wc := [(w_X1 ad (b2 + 6) cs (S2 1))]) (Wc' := [(w_X1 ad (b2 + 6) cs (S2 1))]) (is := [3]) (js := [0, 1, 2, 4, 5, 6]) ⟨hx, hb, hml, hown, hts⟩ (k_X1_countWhere l dC dI cs ad (b2 + 6) H4.size (S2 1) (0 : Int32) q13 gq13) (cwV 1 hts gX2_findAims_X1_countWhere rfl rfl rfl cd_X1_countWhere ⟨Nat.le_of_ble_eq_true rfl, Nat.le_of_ble_eq_true rfl⟩) hK hP hD hS hA ⟨rfl, rfl, rfl, rfl, rfl, rfl⟩ (jn_nd (is := [3]) hD rfl rfl) 9 0 rfl rfl rfl rfl rfl hl.1 (Nat.le_of_ble_eq_true rfl) dX2_findAims_13 (fun H13 locs13 hP' hD' hS' => ?_)
  replace hS := hS'
  replace hP : va_P (dC, dI) vwCl (fl [(w_X2 ad (b1) cs S1), (w_X5 ad (b2) cs S2)]) H13 := hP'
  replace hD : va_D A (fl [(w_X2 ad (b1) cs S1), (w_X5 ad (b2) cs S2)]) := hD'
  clear hP' hD' hS'
  refine lv_istore_n (lv' := [(3, .int q13), (2, .int q4), (0, .ref (ad b1)), (1, .ref (ad b2))]) hx hb dX2_findAims_16 rfl hl (Nat.le_of_ble_eq_true rfl) rfl (fun ls hl => ?_)
  refine lv_iload_n hx hb dX2_findAims_17 rfl (lv_at hl 0 rfl) ?_
  refine lv_istore (lv' := [(4, .int q13), (3, .int q13), (2, .int q4), (0, .ref (ad b1)), (1, .ref (ad b2))]) hx hb dX2_findAims_18 hl (Nat.le_of_ble_eq_true rfl) rfl (fun ls hl => ?_)
  refine lv_iconst (v := 0) hx hb dX2_findAims_20 ic_0 ?_
  refine lv_istore (lv' := [(5, .int (0 : Int32)), (4, .int q13), (3, .int q13), (2, .int q4), (0, .ref (ad b1)), (1, .ref (ad b2))]) hx hb dX2_findAims_21 hl (Nat.le_of_ble_eq_true rfl) rfl (fun ls hl => ?_)
  exact hB23 fuel S1 q4 q13 q13 (0 : Int32) H13 _ ls hR hP hD hS (lv_sub hl [4, 5, 3, 2, 1, 0] rfl)
set_option maxHeartbeats 8000000 in
set_option maxRecDepth 100000 in
theorem k_X6_has (l : Launch) (dC : Nat → ClassId) (dI : Nat → Nat → Nat) (cs : Nat → ClassId) (ad : Nat → Nat) (b1 : Nat) (sz : Nat) (S1 : T2) (p1 : Int32) (r : Int32) (hR : fX6_has S1 p1 = some r) : Met l yX6_has wsX6_has ({ frames := 0, cells := 0, slots := 0, locals := 0 } : Room) (va_Pc [.ref (ad b1), .int p1] (pW dC dI (tyL cs) (fl [(w_X6 ad (b1) cs S1)]) sz)) (QI dC dI (tyL cs) (va_A (fl [(w_X6 ad (b1) cs S1)]) sz) (fl [(w_X6 ad (b1) cs S1)]) r) 0 0 (va_A (fl [(w_X6 ad (b1) cs S1)]) sz) := by
  refine mt_of (own := RX6) (cc := cX6_has) (maxL := 2) (ret := (some .boolean)) (Qc := fun A => QI dC dI (tyL cs) A (fl [(w_X6 ad (b1) cs S1)]) r) rfl (by decide) rfl (Nat.le_of_ble_eq_true rfl) (fun p e s m below meth c A ls hsz hx hb hr hts hown hlocks hml hA hK hP hD hS hl => ?_)
  subst hsz
  have hl : lv_has ls 2 [(0, .ref (ad b1)), (1, .int p1)] := hl
  have hF24 := hts (.fieldLink RX6 24 "DockedBikes$Stations" "size" "I") (List.mem_of_getElem? (i := 1) rfl)
  have hinX6 : ∀ w ∈ wsX60, w ∈ wsX6_has := by decide +kernel
  refine lv_iload_n hx hb dX6_has_0 rfl (lv_at hl 1 rfl) ?_
  refine lv_if_lt (tgt := 16) hx hb dX6_has_1 (by decide) (fun c1 => ?_) (fun c1 => ?_)
  · replace hR := it_t hR c1
    refine lv_iconst (v := 0) hx hb dX6_has_16 ic_0 ?_
    replace hR := Option.some.inj hR
    have e9 := hR
    exact W.zret (ty := .boolean) hx hb hr (by decide) (fun t ht hW => ⟨⟨_, (), rfl, e9, by rw [ht]; exact hP, va_K.moved hW.alike hK, hD⟩, hS.F ht⟩) hS.2.2 dX6_has_17
  · replace hR := it_f hR c1
    refine lv_iload_n hx hb dX6_has_4 rfl (lv_at hl 1 rfl) ?_
    refine lv_aload_n hx hb dX6_has_5 rfl (lv_at hl 0 rfl) ?_
    refine va_get (D := (dC, dI)) (ci := 5) (v := .int (S1 4 0)) (C := RX6) (T := TX6) (N := 5) hx hb hts hinX6 hown hK hP 0 rfl rfl 0 (by decide) hF24 (fun _ h9 => h9) rfl dX6_has_6 ?_
    refine lv_icmp_ge (tgt := 16) hx hb dX6_has_9 (by decide) (fun c9 => ?_) (fun c9 => ?_)
    · replace hR := it_t hR c9
      refine lv_iconst (v := 0) hx hb dX6_has_16 ic_0 ?_
      replace hR := Option.some.inj hR
      have e9 := hR
      exact W.zret (ty := .boolean) hx hb hr (by decide) (fun t ht hW => ⟨⟨_, (), rfl, e9, by rw [ht]; exact hP, va_K.moved hW.alike hK, hD⟩, hS.F ht⟩) hS.2.2 dX6_has_17
    · replace hR := it_f hR c9
      refine lv_iconst (v := 1) hx hb dX6_has_12 ic_1 ?_
      refine lv_goto (tgt := 17) hx hb dX6_has_13 (by decide) ?_
      replace hR := Option.some.inj hR
      have e9 := hR
      exact W.zret (ty := .boolean) hx hb hr (by decide) (fun t ht hW => ⟨⟨_, (), rfl, e9, by rw [ht]; exact hP, va_K.moved hW.alike hK, hD⟩, hS.F ht⟩) hS.2.2 dX6_has_17
set_option maxHeartbeats 8000000 in
set_option maxRecDepth 100000 in
theorem k_X2_aim (l : Launch) (dC : Nat → ClassId) (dI : Nat → Nat → Nat) (cs : Nat → ClassId) (ad : Nat → Nat) (b1 b2 : Nat) (sz : Nat) (S1 : T2) (S2 : T3) (p2 : Int32) (r : Int32) (u1 : T2) (hR : fX2_aim S1 S2 p2 = some (r, u1)) : Met l yX2_aim wsX2_aim ({ frames := 2, cells := 0, slots := 0, locals := 48 } : Room) (va_Pc [.ref (ad b1), .ref (ad b2), .int p2] (pW dC dI (tyL cs) (fl [(w_X2 ad (b1) cs S1), (w_X5 ad (b2) cs S2)]) sz)) (QI dC dI (tyL cs) (va_A (fl [(w_X2 ad (b1) cs S1), (w_X5 ad (b2) cs S2)]) sz) (fl [(w_X2 ad (b1) cs u1), (w_X5 ad (b2) cs S2)]) r) 0 0 (va_A (fl [(w_X2 ad (b1) cs S1), (w_X5 ad (b2) cs S2)]) sz) := by
  refine mt_of (own := RX2) (cc := cX2_aim) (maxL := 3) (ret := (some .int)) (Qc := fun A => QI dC dI (tyL cs) A (fl [(w_X2 ad (b1) cs u1), (w_X5 ad (b2) cs S2)]) r) rfl (by decide) rfl (Nat.le_of_ble_eq_true rfl) (fun p e s m below meth c A ls hsz hx hb hr hts hown hlocks hml hA hK hP hD hS hl => ?_)
  subst hsz
  have hl : lv_has ls 3 [(0, .ref (ad b1)), (1, .ref (ad b2)), (2, .int p2)] := hl
  have hF9 := hts (.fieldLink RX2 9 "DockedBikes$Filling" "aims" "[I") (List.mem_of_getElem? (i := 2) rfl)
  have hF22 := hts (.fieldLink RX2 22 "DockedBikes$Road" "stations" "LDockedBikes$Stations;") (List.mem_of_getElem? (i := 1) rfl)
  have hinX2 : ∀ w ∈ wsX20, w ∈ wsX2_aim := by decide +kernel
  have hinX5 : ∀ w ∈ wsX50, w ∈ wsX2_aim := by decide +kernel
  refine lv_aload_n hx hb dX2_aim_0 rfl (lv_at hl 0 rfl) ?_
  refine lv_aload_n hx hb dX2_aim_1 rfl (lv_at hl 1 rfl) ?_
  replace hR := bd_e hR
  obtain ⟨q2, gq2, hR⟩ := hR
  refine cl_Vv (As := [.ref (ad b2)]) (rest := []) (L := [(w_X2 ad (b1) cs S1), (w_X5 ad (b2) cs S2)]) (L' := [(w_X2 ad (b1) cs q2), (w_X5 ad (b2) cs S2)]) (Wc := [(w_X2 ad (b1) cs S1), (w_X5 ad (b2) cs S2)]) (Wc' := [(w_X2 ad (b1) cs q2), (w_X5 ad (b2) cs S2)]) (is := [0, 1]) (js := []) ⟨hx, hb, hml, hown, hts⟩ (k_X2_findAims l dC dI cs ad (b1) (b2) s.heap.size S1 S2 q2 gq2) (cwV 1 hts gX2_aim_X2_findAims rfl rfl rfl cd_X2_findAims ⟨Nat.le_of_ble_eq_true rfl, Nat.le_of_ble_eq_true rfl⟩) hK hP hD hS hA ⟨rfl, rfl, rfl, rfl, rfl, rfl⟩ (jn_nd (is := [0, 1]) hD rfl rfl) 0 1 rfl rfl rfl rfl rfl hl.1 (Nat.le_of_ble_eq_true rfl) dX2_aim_2 (fun H2 locs2 hP' hD' hS' => ?_)
  replace hS := hS'
  replace hP : va_P (dC, dI) vwCl (fl [(w_X2 ad (b1) cs q2), (w_X5 ad (b2) cs S2)]) H2 := hP'
  replace hD : va_D A (fl [(w_X2 ad (b1) cs q2), (w_X5 ad (b2) cs S2)]) := hD'
  clear hP' hD' hS'
  refine lv_aload_n hx hb dX2_aim_5 rfl (lv_at hl 1 rfl) ?_
  refine va_get (D := (dC, dI)) (ci := 4) (v := .ref (ad (b2 + 1))) (C := RX5) (T := TX5) (N := 6) hx hb hts hinX5 hown hK hP 3 rfl rfl 0 (by decide) hF22 (fun _ h9 => h9) rfl dX2_aim_6 ?_
  refine lv_iload_n hx hb dX2_aim_9 rfl (lv_at hl 2 rfl) ?_
  replace hR := bd_e hR
  obtain ⟨q10, gq10, hR⟩ := hR
  replace hP : va_P (dC, dI) vwCl (fl [(w_X2 ad (b1) cs q2), [((ad b2), .inr (4, [.ref (ad (b2 + 1)), .ref (ad (b2 + 6)), .ref (ad (b2 + 13)), .ref (ad (b2 + 23)), .ref (ad (b2 + 27)), .int (S2 4 1 0)]))], (w_X6 ad (b2 + 1) cs (S2 0)), (w_X1 ad (b2 + 6) cs (S2 1)), (w_X4 ad (b2 + 13) cs (S2 2)), (w_X8 ad (b2 + 23) cs (S2 3)), [((ad (b2 + 27)), .inl (cs 0, 3, .inl (S2 4 0)))]]) H2 := hP
  replace hD : va_D A (fl [(w_X2 ad (b1) cs q2), [((ad b2), .inr (4, [.ref (ad (b2 + 1)), .ref (ad (b2 + 6)), .ref (ad (b2 + 13)), .ref (ad (b2 + 23)), .ref (ad (b2 + 27)), .int (S2 4 1 0)]))], (w_X6 ad (b2 + 1) cs (S2 0)), (w_X1 ad (b2 + 6) cs (S2 1)), (w_X4 ad (b2 + 13) cs (S2 2)), (w_X8 ad (b2 + 23) cs (S2 3)), [((ad (b2 + 27)), .inl (cs 0, 3, .inl (S2 4 0)))]]) := hD
  refine cl_Vi (As := [.int p2]) (rest := []) (L := [(w_X2 ad (b1) cs q2), [((ad b2), .inr (4, [.ref (ad (b2 + 1)), .ref (ad (b2 + 6)), .ref (ad (b2 + 13)), .ref (ad (b2 + 23)), .ref (ad (b2 + 27)), .int (S2 4 1 0)]))], (w_X6 ad (b2 + 1) cs (S2 0)), (w_X1 ad (b2 + 6) cs (S2 1)), (w_X4 ad (b2 + 13) cs (S2 2)), (w_X8 ad (b2 + 23) cs (S2 3)), [((ad (b2 + 27)), .inl (cs 0, 3, .inl (S2 4 0)))]]) (L' := [(w_X2 ad (b1) cs q2), [((ad b2), .inr (4, [.ref (ad (b2 + 1)), .ref (ad (b2 + 6)), .ref (ad (b2 + 13)), .ref (ad (b2 + 23)), .ref (ad (b2 + 27)), .int (S2 4 1 0)]))], (w_X6 ad (b2 + 1) cs (S2 0)), (w_X1 ad (b2 + 6) cs (S2 1)), (w_X4 ad (b2 + 13) cs (S2 2)), (w_X8 ad (b2 + 23) cs (S2 3)), [((ad (b2 + 27)), .inl (cs 0, 3, .inl (S2 4 0)))]]) (Wc := [(w_X6 ad (b2 + 1) cs (S2 0))]) (Wc' := [(w_X6 ad (b2 + 1) cs (S2 0))]) (is := [2]) (js := [0, 1, 3, 4, 5, 6]) ⟨hx, hb, hml, hown, hts⟩ (k_X6_has l dC dI cs ad (b2 + 1) H2.size (S2 0) p2 q10 gq10) (cwV 1 hts gX2_aim_X6_has rfl rfl rfl cd_X6_has ⟨Nat.le_of_ble_eq_true rfl, Nat.le_of_ble_eq_true rfl⟩) hK hP hD hS hA ⟨rfl, rfl, rfl, rfl, rfl, rfl⟩ (jn_nd (is := [2]) hD rfl rfl) 4 5 rfl rfl rfl rfl rfl hl.1 (Nat.le_of_ble_eq_true rfl) dX2_aim_10 (fun H10 locs10 hP' hD' hS' => ?_)
  replace hS := hS'
  replace hP : va_P (dC, dI) vwCl (fl [(w_X2 ad (b1) cs q2), (w_X5 ad (b2) cs S2)]) H10 := hP'
  replace hD : va_D A (fl [(w_X2 ad (b1) cs q2), (w_X5 ad (b2) cs S2)]) := hD'
  clear hP' hD' hS'
  refine lv_if_eq (tgt := 25) hx hb dX2_aim_13 (by decide) (fun c13 => ?_) (fun c13 => ?_)
  · replace hR := it_t hR c13
    refine lv_iconst (v := 0) hx hb dX2_aim_25 ic_0 ?_
    replace hR := Option.some.inj hR
    obtain ⟨e9, hR⟩ := Prod.mk.inj hR
    have eu1 := hR
    replace hP : va_P (dC, dI) vwCl (fl [(w_X2 ad (b1) cs u1), (w_X5 ad (b2) cs S2)]) H10 := by rw [← eu1]; exact hP
    replace hD : va_D A (fl [(w_X2 ad (b1) cs u1), (w_X5 ad (b2) cs S2)]) := by rw [← eu1]; exact hD
    exact W.iret hx hb hr (fun t ht hW => ⟨⟨_, (), rfl, e9, by rw [ht]; exact hP, va_K.moved hW.alike hK, hD⟩, hS.F ht⟩) hS.2.2 dX2_aim_26
  · replace hR := it_f hR c13
    refine lv_aload_n hx hb dX2_aim_16 rfl (lv_at hl 0 rfl) ?_
    refine va_get (D := (dC, dI)) (ci := 1) (v := .ref (ad (b1 + 1))) (C := RX2) (T := TX2) (N := 6) hx hb hts hinX2 hown hK hP 0 rfl rfl 4 (by decide) hF9 (fun _ h9 => h9) rfl dX2_aim_17 ?_
    refine lv_iload_n hx hb dX2_aim_20 rfl (lv_at hl 2 rfl) ?_
    replace hR := gi_e hR
    obtain ⟨i21, hR⟩ := hR
    refine va_iald hx hb hK hP 1 0 rfl rfl i21 dX2_aim_21 ?_
    refine lv_goto (tgt := 26) hx hb dX2_aim_22 (by decide) ?_
    replace hR := Option.some.inj hR
    obtain ⟨e9, hR⟩ := Prod.mk.inj hR
    have eu1 := hR
    replace hP : va_P (dC, dI) vwCl (fl [(w_X2 ad (b1) cs u1), (w_X5 ad (b2) cs S2)]) H10 := by rw [← eu1]; exact hP
    replace hD : va_D A (fl [(w_X2 ad (b1) cs u1), (w_X5 ad (b2) cs S2)]) := by rw [← eu1]; exact hD
    exact W.iret hx hb hr (fun t ht hW => ⟨⟨_, (), rfl, e9, by rw [ht]; exact hP, va_K.moved hW.alike hK, hD⟩, hS.F ht⟩) hS.2.2 dX2_aim_26
set_option maxHeartbeats 8000000 in
set_option maxRecDepth 100000 in
theorem k_X6_copy (l : Launch) (dC : Nat → ClassId) (dI : Nat → Nat → Nat) (cs : Nat → ClassId) (ad : Nat → Nat) (b1 b2 : Nat) (sz : Nat) (S1 : T2) (S2 : T2) (u1 : T2) (hR : fX6_copy S1 S2 = some u1) : Met l yX6_copy wsX6_copy ({ frames := 1, cells := 0, slots := 0, locals := 30 } : Room) (va_Pc [.ref (ad b1), .ref (ad b2)] (pW dC dI (tyL cs) (fl [(w_X6 ad (b1) cs S1), (w_X6 ad (b2) cs S2)]) sz)) (QV dC dI (tyL cs) (va_A (fl [(w_X6 ad (b1) cs S1), (w_X6 ad (b2) cs S2)]) sz) (fl [(w_X6 ad (b1) cs u1), (w_X6 ad (b2) cs S2)])) 0 0 (va_A (fl [(w_X6 ad (b1) cs S1), (w_X6 ad (b2) cs S2)]) sz) := by
  refine mt_of (own := RX6) (cc := cX6_copy) (maxL := 2) (ret := none) (Qc := fun A => QV dC dI (tyL cs) A (fl [(w_X6 ad (b1) cs u1), (w_X6 ad (b2) cs S2)])) rfl (by decide) rfl (Nat.le_of_ble_eq_true rfl) (fun p e s m below meth c A ls hsz hx hb hr hts hown hlocks hml hA hK hP hD hS hl => ?_)
  subst hsz
  have hl : lv_has ls 2 [(0, .ref (ad b1)), (1, .ref (ad b2))] := hl
  have hF11 := hts (.fieldLink RX6 11 "DockedBikes$Stations" "place" "[I") (List.mem_of_getElem? (i := 2) rfl)
  have hF15 := hts (.fieldLink RX6 15 "DockedBikes$Stations" "docks" "[I") (List.mem_of_getElem? (i := 7) rfl)
  have hF18 := hts (.fieldLink RX6 18 "DockedBikes$Stations" "began" "[I") (List.mem_of_getElem? (i := 8) rfl)
  have hF21 := hts (.fieldLink RX6 21 "DockedBikes$Stations" "ended" "[I") (List.mem_of_getElem? (i := 9) rfl)
  have hF24 := hts (.fieldLink RX6 24 "DockedBikes$Stations" "size" "I") (List.mem_of_getElem? (i := 1) rfl)
  have hinX6 : ∀ w ∈ wsX60, w ∈ wsX6_copy := by decide +kernel
  refine lv_aload_n hx hb dX6_copy_0 rfl (lv_at hl 0 rfl) ?_
  refine lv_aload_n hx hb dX6_copy_1 rfl (lv_at hl 1 rfl) ?_
  refine va_get (D := (dC, dI)) (ci := 5) (v := .int (S2 4 0)) (C := RX6) (T := TX6) (N := 5) hx hb hts hinX6 hown hK hP 5 rfl rfl 0 (by decide) hF24 (fun _ h9 => h9) rfl dX6_copy_2 ?_
  refine va_put (D := (dC, dI)) (ci := 5) (v := .int (S2 4 0)) (ty := .int) (C := RX6) (T := TX6) (N := 5) hx hb hts hinX6 tyX6 tyX6_ok nmX6 hown hK hP hD hS 0 rfl rfl 0 (by decide) hF24 (fun _ h9 => h9) rfl (by decide +kernel) rfl rfl (Nat.le_of_ble_eq_true rfl) dX6_copy_5 (fun H5 locs5 hP' hD' hS' => ?_)
  replace hS := hS'
  have hP' : va_P (dC, dI) vwCl (fl [(w_X6 ad (b1) cs (sU S1 4 (sU (S1 4) 0 (S2 4 0)))), (w_X6 ad (b2) cs S2)]) H5 := hP'
  have hD' : va_D A (fl [(w_X6 ad (b1) cs (sU S1 4 (sU (S1 4) 0 (S2 4 0)))), (w_X6 ad (b2) cs S2)]) := hD'
  replace hR := bn_e hR
  obtain ⟨S1_5, eS1_5, hR⟩ := hR
  replace hP : va_P (dC, dI) vwCl (fl [(w_X6 ad (b1) cs S1_5), (w_X6 ad (b2) cs S2)]) H5 := by rw [eS1_5]; exact hP'
  replace hD : va_D A (fl [(w_X6 ad (b1) cs S1_5), (w_X6 ad (b2) cs S2)]) := by rw [eS1_5]; exact hD'
  clear hP' hD' hS'
  refine lv_aload_n hx hb dX6_copy_8 rfl (lv_at hl 1 rfl) ?_
  refine va_get (D := (dC, dI)) (ci := 5) (v := .ref (ad (b2 + 1))) (C := RX6) (T := TX6) (N := 5) hx hb hts hinX6 hown hK hP 5 rfl rfl 1 (by decide) hF11 (fun _ h9 => h9) rfl dX6_copy_9 ?_
  refine lv_iconst (v := 0) hx hb dX6_copy_12 ic_0 ?_
  refine lv_aload_n hx hb dX6_copy_13 rfl (lv_at hl 0 rfl) ?_
  refine va_get (D := (dC, dI)) (ci := 5) (v := .ref (ad (b1 + 1))) (C := RX6) (T := TX6) (N := 5) hx hb hts hinX6 hown hK hP 0 rfl rfl 1 (by decide) hF11 (fun _ h9 => h9) rfl dX6_copy_14 ?_
  refine lv_iconst (v := 0) hx hb dX6_copy_17 ic_0 ?_
  refine lv_bipush (v := 6) hx hb dX6_copy_18 bp_6 ?_
  refine va_copyi hx hb (hml.trans hl.1.symm) hown (hts (.methodLink RX6 28 arraycopyName) (List.mem_of_getElem? (i := 3) rfl)) (hts (.native arraycopyName) (List.mem_of_getElem? (i := 4) rfl)) (hts (.static arraycopyName) (List.mem_of_getElem? (i := 5) rfl)) (hts (.initialized "java/lang/System") (List.mem_of_getElem? (i := 6) rfl)) hK hP hD hS 6 1 0 0 rfl rfl rfl rfl rfl (by decide) (by decide) (by decide) (by decide) (by decide) (fun _ _ => rfl) (Nat.le_of_ble_eq_true rfl) (Nat.le_of_ble_eq_true rfl) dX6_copy_20 (fun H20 locs20 hP' hD' hS' => ?_)
  replace hS := hS'
  have hP' : va_P (dC, dI) vwCl (fl [(w_X6 ad (b1) cs (sU S1_5 0 (va_cpy (S2 0) (S1_5 0) (0 : Int32).toNatClampNeg (0 : Int32).toNatClampNeg (6 : Int32).toNatClampNeg))), (w_X6 ad (b2) cs S2)]) H20 := hP'
  have hD' : va_D A (fl [(w_X6 ad (b1) cs (sU S1_5 0 (va_cpy (S2 0) (S1_5 0) (0 : Int32).toNatClampNeg (0 : Int32).toNatClampNeg (6 : Int32).toNatClampNeg))), (w_X6 ad (b2) cs S2)]) := hD'
  replace hR := bn_e hR
  obtain ⟨S1_20, eS1_20, hR⟩ := hR
  replace hP : va_P (dC, dI) vwCl (fl [(w_X6 ad (b1) cs S1_20), (w_X6 ad (b2) cs S2)]) H20 := by rw [eS1_20]; exact hP'
  replace hD : va_D A (fl [(w_X6 ad (b1) cs S1_20), (w_X6 ad (b2) cs S2)]) := by rw [eS1_20]; exact hD'
  clear hP' hD' hS'
  refine lv_aload_n hx hb dX6_copy_23 rfl (lv_at hl 1 rfl) ?_
  refine va_get (D := (dC, dI)) (ci := 5) (v := .ref (ad (b2 + 2))) (C := RX6) (T := TX6) (N := 5) hx hb hts hinX6 hown hK hP 5 rfl rfl 2 (by decide) hF15 (fun _ h9 => h9) rfl dX6_copy_24 ?_
  refine lv_iconst (v := 0) hx hb dX6_copy_27 ic_0 ?_
  refine lv_aload_n hx hb dX6_copy_28 rfl (lv_at hl 0 rfl) ?_
  refine va_get (D := (dC, dI)) (ci := 5) (v := .ref (ad (b1 + 2))) (C := RX6) (T := TX6) (N := 5) hx hb hts hinX6 hown hK hP 0 rfl rfl 2 (by decide) hF15 (fun _ h9 => h9) rfl dX6_copy_29 ?_
  refine lv_iconst (v := 0) hx hb dX6_copy_32 ic_0 ?_
  refine lv_bipush (v := 6) hx hb dX6_copy_33 bp_6 ?_
  refine va_copyi hx hb (hml.trans hl.1.symm) hown (hts (.methodLink RX6 28 arraycopyName) (List.mem_of_getElem? (i := 3) rfl)) (hts (.native arraycopyName) (List.mem_of_getElem? (i := 4) rfl)) (hts (.static arraycopyName) (List.mem_of_getElem? (i := 5) rfl)) (hts (.initialized "java/lang/System") (List.mem_of_getElem? (i := 6) rfl)) hK hP hD hS 7 2 0 0 rfl rfl rfl rfl rfl (by decide) (by decide) (by decide) (by decide) (by decide) (fun _ _ => rfl) (Nat.le_of_ble_eq_true rfl) (Nat.le_of_ble_eq_true rfl) dX6_copy_35 (fun H35 locs35 hP' hD' hS' => ?_)
  replace hS := hS'
  have hP' : va_P (dC, dI) vwCl (fl [(w_X6 ad (b1) cs (sU S1_20 1 (va_cpy (S2 1) (S1_20 1) (0 : Int32).toNatClampNeg (0 : Int32).toNatClampNeg (6 : Int32).toNatClampNeg))), (w_X6 ad (b2) cs S2)]) H35 := hP'
  have hD' : va_D A (fl [(w_X6 ad (b1) cs (sU S1_20 1 (va_cpy (S2 1) (S1_20 1) (0 : Int32).toNatClampNeg (0 : Int32).toNatClampNeg (6 : Int32).toNatClampNeg))), (w_X6 ad (b2) cs S2)]) := hD'
  replace hR := bn_e hR
  obtain ⟨S1_35, eS1_35, hR⟩ := hR
  replace hP : va_P (dC, dI) vwCl (fl [(w_X6 ad (b1) cs S1_35), (w_X6 ad (b2) cs S2)]) H35 := by rw [eS1_35]; exact hP'
  replace hD : va_D A (fl [(w_X6 ad (b1) cs S1_35), (w_X6 ad (b2) cs S2)]) := by rw [eS1_35]; exact hD'
  clear hP' hD' hS'
  refine lv_aload_n hx hb dX6_copy_38 rfl (lv_at hl 1 rfl) ?_
  refine va_get (D := (dC, dI)) (ci := 5) (v := .ref (ad (b2 + 3))) (C := RX6) (T := TX6) (N := 5) hx hb hts hinX6 hown hK hP 5 rfl rfl 3 (by decide) hF18 (fun _ h9 => h9) rfl dX6_copy_39 ?_
  refine lv_iconst (v := 0) hx hb dX6_copy_42 ic_0 ?_
  refine lv_aload_n hx hb dX6_copy_43 rfl (lv_at hl 0 rfl) ?_
  refine va_get (D := (dC, dI)) (ci := 5) (v := .ref (ad (b1 + 3))) (C := RX6) (T := TX6) (N := 5) hx hb hts hinX6 hown hK hP 0 rfl rfl 3 (by decide) hF18 (fun _ h9 => h9) rfl dX6_copy_44 ?_
  refine lv_iconst (v := 0) hx hb dX6_copy_47 ic_0 ?_
  refine lv_bipush (v := 6) hx hb dX6_copy_48 bp_6 ?_
  refine va_copyi hx hb (hml.trans hl.1.symm) hown (hts (.methodLink RX6 28 arraycopyName) (List.mem_of_getElem? (i := 3) rfl)) (hts (.native arraycopyName) (List.mem_of_getElem? (i := 4) rfl)) (hts (.static arraycopyName) (List.mem_of_getElem? (i := 5) rfl)) (hts (.initialized "java/lang/System") (List.mem_of_getElem? (i := 6) rfl)) hK hP hD hS 8 3 0 0 rfl rfl rfl rfl rfl (by decide) (by decide) (by decide) (by decide) (by decide) (fun _ _ => rfl) (Nat.le_of_ble_eq_true rfl) (Nat.le_of_ble_eq_true rfl) dX6_copy_50 (fun H50 locs50 hP' hD' hS' => ?_)
  replace hS := hS'
  have hP' : va_P (dC, dI) vwCl (fl [(w_X6 ad (b1) cs (sU S1_35 2 (va_cpy (S2 2) (S1_35 2) (0 : Int32).toNatClampNeg (0 : Int32).toNatClampNeg (6 : Int32).toNatClampNeg))), (w_X6 ad (b2) cs S2)]) H50 := hP'
  have hD' : va_D A (fl [(w_X6 ad (b1) cs (sU S1_35 2 (va_cpy (S2 2) (S1_35 2) (0 : Int32).toNatClampNeg (0 : Int32).toNatClampNeg (6 : Int32).toNatClampNeg))), (w_X6 ad (b2) cs S2)]) := hD'
  replace hR := bn_e hR
  obtain ⟨S1_50, eS1_50, hR⟩ := hR
  replace hP : va_P (dC, dI) vwCl (fl [(w_X6 ad (b1) cs S1_50), (w_X6 ad (b2) cs S2)]) H50 := by rw [eS1_50]; exact hP'
  replace hD : va_D A (fl [(w_X6 ad (b1) cs S1_50), (w_X6 ad (b2) cs S2)]) := by rw [eS1_50]; exact hD'
  clear hP' hD' hS'
  refine lv_aload_n hx hb dX6_copy_53 rfl (lv_at hl 1 rfl) ?_
  refine va_get (D := (dC, dI)) (ci := 5) (v := .ref (ad (b2 + 4))) (C := RX6) (T := TX6) (N := 5) hx hb hts hinX6 hown hK hP 5 rfl rfl 4 (by decide) hF21 (fun _ h9 => h9) rfl dX6_copy_54 ?_
  refine lv_iconst (v := 0) hx hb dX6_copy_57 ic_0 ?_
  refine lv_aload_n hx hb dX6_copy_58 rfl (lv_at hl 0 rfl) ?_
  refine va_get (D := (dC, dI)) (ci := 5) (v := .ref (ad (b1 + 4))) (C := RX6) (T := TX6) (N := 5) hx hb hts hinX6 hown hK hP 0 rfl rfl 4 (by decide) hF21 (fun _ h9 => h9) rfl dX6_copy_59 ?_
  refine lv_iconst (v := 0) hx hb dX6_copy_62 ic_0 ?_
  refine lv_bipush (v := 6) hx hb dX6_copy_63 bp_6 ?_
  refine va_copyi hx hb (hml.trans hl.1.symm) hown (hts (.methodLink RX6 28 arraycopyName) (List.mem_of_getElem? (i := 3) rfl)) (hts (.native arraycopyName) (List.mem_of_getElem? (i := 4) rfl)) (hts (.static arraycopyName) (List.mem_of_getElem? (i := 5) rfl)) (hts (.initialized "java/lang/System") (List.mem_of_getElem? (i := 6) rfl)) hK hP hD hS 9 4 0 0 rfl rfl rfl rfl rfl (by decide) (by decide) (by decide) (by decide) (by decide) (fun _ _ => rfl) (Nat.le_of_ble_eq_true rfl) (Nat.le_of_ble_eq_true rfl) dX6_copy_65 (fun H65 locs65 hP' hD' hS' => ?_)
  replace hS := hS'
  have hP' : va_P (dC, dI) vwCl (fl [(w_X6 ad (b1) cs (sU S1_50 3 (va_cpy (S2 3) (S1_50 3) (0 : Int32).toNatClampNeg (0 : Int32).toNatClampNeg (6 : Int32).toNatClampNeg))), (w_X6 ad (b2) cs S2)]) H65 := hP'
  have hD' : va_D A (fl [(w_X6 ad (b1) cs (sU S1_50 3 (va_cpy (S2 3) (S1_50 3) (0 : Int32).toNatClampNeg (0 : Int32).toNatClampNeg (6 : Int32).toNatClampNeg))), (w_X6 ad (b2) cs S2)]) := hD'
  replace hR := bn_e hR
  obtain ⟨S1_65, eS1_65, hR⟩ := hR
  replace hP : va_P (dC, dI) vwCl (fl [(w_X6 ad (b1) cs S1_65), (w_X6 ad (b2) cs S2)]) H65 := by rw [eS1_65]; exact hP'
  replace hD : va_D A (fl [(w_X6 ad (b1) cs S1_65), (w_X6 ad (b2) cs S2)]) := by rw [eS1_65]; exact hD'
  clear hP' hD' hS'
  replace hR := Option.some.inj hR
  have eu1 := hR
  replace hP : va_P (dC, dI) vwCl (fl [(w_X6 ad (b1) cs u1), (w_X6 ad (b2) cs S2)]) H65 := by rw [← eu1]; exact hP
  replace hD : va_D A (fl [(w_X6 ad (b1) cs u1), (w_X6 ad (b2) cs S2)]) := by rw [← eu1]; exact hD
  exact W.vret hx hb hr (fun t ht hW => ⟨⟨(), rfl, trivial, by rw [ht]; exact hP, va_K.moved hW.alike hK, hD⟩, hS.F ht⟩) hS.2.2 dX6_copy_68
set_option maxHeartbeats 8000000 in
set_option maxRecDepth 100000 in
theorem k_X4_copy (l : Launch) (dC : Nat → ClassId) (dI : Nat → Nat → Nat) (cs : Nat → ClassId) (ad : Nat → Nat) (b1 b2 : Nat) (sz : Nat) (S1 : T2) (S2 : T2) (u1 : T2) (hR : fX4_copy S1 S2 = some u1) : Met l yX4_copy wsX4_copy ({ frames := 1, cells := 0, slots := 0, locals := 30 } : Room) (va_Pc [.ref (ad b1), .ref (ad b2)] (pW dC dI (tyL cs) (fl [(w_X4 ad (b1) cs S1), (w_X4 ad (b2) cs S2)]) sz)) (QV dC dI (tyL cs) (va_A (fl [(w_X4 ad (b1) cs S1), (w_X4 ad (b2) cs S2)]) sz) (fl [(w_X4 ad (b1) cs u1), (w_X4 ad (b2) cs S2)])) 0 0 (va_A (fl [(w_X4 ad (b1) cs S1), (w_X4 ad (b2) cs S2)]) sz) := by
  refine mt_of (own := RX4) (cc := cX4_copy) (maxL := 2) (ret := none) (Qc := fun A => QV dC dI (tyL cs) A (fl [(w_X4 ad (b1) cs u1), (w_X4 ad (b2) cs S2)])) rfl (by decide) rfl (Nat.le_of_ble_eq_true rfl) (fun p e s m below meth c A ls hsz hx hb hr hts hown hlocks hml hA hK hP hD hS hl => ?_)
  subst hsz
  have hl : lv_has ls 2 [(0, .ref (ad b1)), (1, .ref (ad b2))] := hl
  have hF11 := hts (.fieldLink RX4 11 "DockedBikes$Riders" "owed" "[I") (List.mem_of_getElem? (i := 2) rfl)
  have hF15 := hts (.fieldLink RX4 15 "DockedBikes$Riders" "passEnd" "[I") (List.mem_of_getElem? (i := 7) rfl)
  have hF18 := hts (.fieldLink RX4 18 "DockedBikes$Riders" "passCoins" "[I") (List.mem_of_getElem? (i := 8) rfl)
  have hF21 := hts (.fieldLink RX4 21 "DockedBikes$Riders" "rides" "[I") (List.mem_of_getElem? (i := 9) rfl)
  have hF24 := hts (.fieldLink RX4 24 "DockedBikes$Riders" "bicycle" "[I") (List.mem_of_getElem? (i := 10) rfl)
  have hF27 := hts (.fieldLink RX4 27 "DockedBikes$Riders" "start" "[I") (List.mem_of_getElem? (i := 11) rfl)
  have hF30 := hts (.fieldLink RX4 30 "DockedBikes$Riders" "free" "[I") (List.mem_of_getElem? (i := 12) rfl)
  have hF33 := hts (.fieldLink RX4 33 "DockedBikes$Riders" "ground" "[I") (List.mem_of_getElem? (i := 13) rfl)
  have hF36 := hts (.fieldLink RX4 36 "DockedBikes$Riders" "told" "[I") (List.mem_of_getElem? (i := 14) rfl)
  have hF39 := hts (.fieldLink RX4 39 "DockedBikes$Riders" "size" "I") (List.mem_of_getElem? (i := 1) rfl)
  have hinX4 : ∀ w ∈ wsX40, w ∈ wsX4_copy := by decide +kernel
  refine lv_aload_n hx hb dX4_copy_0 rfl (lv_at hl 0 rfl) ?_
  refine lv_aload_n hx hb dX4_copy_1 rfl (lv_at hl 1 rfl) ?_
  refine va_get (D := (dC, dI)) (ci := 3) (v := .int (S2 9 0)) (C := RX4) (T := TX4) (N := 10) hx hb hts hinX4 hown hK hP 10 rfl rfl 0 (by decide) hF39 (fun _ h9 => h9) rfl dX4_copy_2 ?_
  refine va_put (D := (dC, dI)) (ci := 3) (v := .int (S2 9 0)) (ty := .int) (C := RX4) (T := TX4) (N := 10) hx hb hts hinX4 tyX4 tyX4_ok nmX4 hown hK hP hD hS 0 rfl rfl 0 (by decide) hF39 (fun _ h9 => h9) rfl (by decide +kernel) rfl rfl (Nat.le_of_ble_eq_true rfl) dX4_copy_5 (fun H5 locs5 hP' hD' hS' => ?_)
  replace hS := hS'
  have hP' : va_P (dC, dI) vwCl (fl [(w_X4 ad (b1) cs (sU S1 9 (sU (S1 9) 0 (S2 9 0)))), (w_X4 ad (b2) cs S2)]) H5 := hP'
  have hD' : va_D A (fl [(w_X4 ad (b1) cs (sU S1 9 (sU (S1 9) 0 (S2 9 0)))), (w_X4 ad (b2) cs S2)]) := hD'
  replace hR := bn_e hR
  obtain ⟨S1_5, eS1_5, hR⟩ := hR
  replace hP : va_P (dC, dI) vwCl (fl [(w_X4 ad (b1) cs S1_5), (w_X4 ad (b2) cs S2)]) H5 := by rw [eS1_5]; exact hP'
  replace hD : va_D A (fl [(w_X4 ad (b1) cs S1_5), (w_X4 ad (b2) cs S2)]) := by rw [eS1_5]; exact hD'
  clear hP' hD' hS'
  refine lv_aload_n hx hb dX4_copy_8 rfl (lv_at hl 1 rfl) ?_
  refine va_get (D := (dC, dI)) (ci := 3) (v := .ref (ad (b2 + 1))) (C := RX4) (T := TX4) (N := 10) hx hb hts hinX4 hown hK hP 10 rfl rfl 1 (by decide) hF11 (fun _ h9 => h9) rfl dX4_copy_9 ?_
  refine lv_iconst (v := 0) hx hb dX4_copy_12 ic_0 ?_
  refine lv_aload_n hx hb dX4_copy_13 rfl (lv_at hl 0 rfl) ?_
  refine va_get (D := (dC, dI)) (ci := 3) (v := .ref (ad (b1 + 1))) (C := RX4) (T := TX4) (N := 10) hx hb hts hinX4 hown hK hP 0 rfl rfl 1 (by decide) hF11 (fun _ h9 => h9) rfl dX4_copy_14 ?_
  refine lv_iconst (v := 0) hx hb dX4_copy_17 ic_0 ?_
  refine lv_bipush (v := 8) hx hb dX4_copy_18 bp_8 ?_
  refine va_copyi hx hb (hml.trans hl.1.symm) hown (hts (.methodLink RX4 43 arraycopyName) (List.mem_of_getElem? (i := 3) rfl)) (hts (.native arraycopyName) (List.mem_of_getElem? (i := 4) rfl)) (hts (.static arraycopyName) (List.mem_of_getElem? (i := 5) rfl)) (hts (.initialized "java/lang/System") (List.mem_of_getElem? (i := 6) rfl)) hK hP hD hS 11 1 0 0 rfl rfl rfl rfl rfl (by decide) (by decide) (by decide) (by decide) (by decide) (fun _ _ => rfl) (Nat.le_of_ble_eq_true rfl) (Nat.le_of_ble_eq_true rfl) dX4_copy_20 (fun H20 locs20 hP' hD' hS' => ?_)
  replace hS := hS'
  have hP' : va_P (dC, dI) vwCl (fl [(w_X4 ad (b1) cs (sU S1_5 0 (va_cpy (S2 0) (S1_5 0) (0 : Int32).toNatClampNeg (0 : Int32).toNatClampNeg (8 : Int32).toNatClampNeg))), (w_X4 ad (b2) cs S2)]) H20 := hP'
  have hD' : va_D A (fl [(w_X4 ad (b1) cs (sU S1_5 0 (va_cpy (S2 0) (S1_5 0) (0 : Int32).toNatClampNeg (0 : Int32).toNatClampNeg (8 : Int32).toNatClampNeg))), (w_X4 ad (b2) cs S2)]) := hD'
  replace hR := bn_e hR
  obtain ⟨S1_20, eS1_20, hR⟩ := hR
  replace hP : va_P (dC, dI) vwCl (fl [(w_X4 ad (b1) cs S1_20), (w_X4 ad (b2) cs S2)]) H20 := by rw [eS1_20]; exact hP'
  replace hD : va_D A (fl [(w_X4 ad (b1) cs S1_20), (w_X4 ad (b2) cs S2)]) := by rw [eS1_20]; exact hD'
  clear hP' hD' hS'
  refine lv_aload_n hx hb dX4_copy_23 rfl (lv_at hl 1 rfl) ?_
  refine va_get (D := (dC, dI)) (ci := 3) (v := .ref (ad (b2 + 2))) (C := RX4) (T := TX4) (N := 10) hx hb hts hinX4 hown hK hP 10 rfl rfl 2 (by decide) hF15 (fun _ h9 => h9) rfl dX4_copy_24 ?_
  refine lv_iconst (v := 0) hx hb dX4_copy_27 ic_0 ?_
  refine lv_aload_n hx hb dX4_copy_28 rfl (lv_at hl 0 rfl) ?_
  refine va_get (D := (dC, dI)) (ci := 3) (v := .ref (ad (b1 + 2))) (C := RX4) (T := TX4) (N := 10) hx hb hts hinX4 hown hK hP 0 rfl rfl 2 (by decide) hF15 (fun _ h9 => h9) rfl dX4_copy_29 ?_
  refine lv_iconst (v := 0) hx hb dX4_copy_32 ic_0 ?_
  refine lv_bipush (v := 8) hx hb dX4_copy_33 bp_8 ?_
  refine va_copyi hx hb (hml.trans hl.1.symm) hown (hts (.methodLink RX4 43 arraycopyName) (List.mem_of_getElem? (i := 3) rfl)) (hts (.native arraycopyName) (List.mem_of_getElem? (i := 4) rfl)) (hts (.static arraycopyName) (List.mem_of_getElem? (i := 5) rfl)) (hts (.initialized "java/lang/System") (List.mem_of_getElem? (i := 6) rfl)) hK hP hD hS 12 2 0 0 rfl rfl rfl rfl rfl (by decide) (by decide) (by decide) (by decide) (by decide) (fun _ _ => rfl) (Nat.le_of_ble_eq_true rfl) (Nat.le_of_ble_eq_true rfl) dX4_copy_35 (fun H35 locs35 hP' hD' hS' => ?_)
  replace hS := hS'
  have hP' : va_P (dC, dI) vwCl (fl [(w_X4 ad (b1) cs (sU S1_20 1 (va_cpy (S2 1) (S1_20 1) (0 : Int32).toNatClampNeg (0 : Int32).toNatClampNeg (8 : Int32).toNatClampNeg))), (w_X4 ad (b2) cs S2)]) H35 := hP'
  have hD' : va_D A (fl [(w_X4 ad (b1) cs (sU S1_20 1 (va_cpy (S2 1) (S1_20 1) (0 : Int32).toNatClampNeg (0 : Int32).toNatClampNeg (8 : Int32).toNatClampNeg))), (w_X4 ad (b2) cs S2)]) := hD'
  replace hR := bn_e hR
  obtain ⟨S1_35, eS1_35, hR⟩ := hR
  replace hP : va_P (dC, dI) vwCl (fl [(w_X4 ad (b1) cs S1_35), (w_X4 ad (b2) cs S2)]) H35 := by rw [eS1_35]; exact hP'
  replace hD : va_D A (fl [(w_X4 ad (b1) cs S1_35), (w_X4 ad (b2) cs S2)]) := by rw [eS1_35]; exact hD'
  clear hP' hD' hS'
  refine lv_aload_n hx hb dX4_copy_38 rfl (lv_at hl 1 rfl) ?_
  refine va_get (D := (dC, dI)) (ci := 3) (v := .ref (ad (b2 + 3))) (C := RX4) (T := TX4) (N := 10) hx hb hts hinX4 hown hK hP 10 rfl rfl 3 (by decide) hF18 (fun _ h9 => h9) rfl dX4_copy_39 ?_
  refine lv_iconst (v := 0) hx hb dX4_copy_42 ic_0 ?_
  refine lv_aload_n hx hb dX4_copy_43 rfl (lv_at hl 0 rfl) ?_
  refine va_get (D := (dC, dI)) (ci := 3) (v := .ref (ad (b1 + 3))) (C := RX4) (T := TX4) (N := 10) hx hb hts hinX4 hown hK hP 0 rfl rfl 3 (by decide) hF18 (fun _ h9 => h9) rfl dX4_copy_44 ?_
  refine lv_iconst (v := 0) hx hb dX4_copy_47 ic_0 ?_
  refine lv_bipush (v := 8) hx hb dX4_copy_48 bp_8 ?_
  refine va_copyi hx hb (hml.trans hl.1.symm) hown (hts (.methodLink RX4 43 arraycopyName) (List.mem_of_getElem? (i := 3) rfl)) (hts (.native arraycopyName) (List.mem_of_getElem? (i := 4) rfl)) (hts (.static arraycopyName) (List.mem_of_getElem? (i := 5) rfl)) (hts (.initialized "java/lang/System") (List.mem_of_getElem? (i := 6) rfl)) hK hP hD hS 13 3 0 0 rfl rfl rfl rfl rfl (by decide) (by decide) (by decide) (by decide) (by decide) (fun _ _ => rfl) (Nat.le_of_ble_eq_true rfl) (Nat.le_of_ble_eq_true rfl) dX4_copy_50 (fun H50 locs50 hP' hD' hS' => ?_)
  replace hS := hS'
  have hP' : va_P (dC, dI) vwCl (fl [(w_X4 ad (b1) cs (sU S1_35 2 (va_cpy (S2 2) (S1_35 2) (0 : Int32).toNatClampNeg (0 : Int32).toNatClampNeg (8 : Int32).toNatClampNeg))), (w_X4 ad (b2) cs S2)]) H50 := hP'
  have hD' : va_D A (fl [(w_X4 ad (b1) cs (sU S1_35 2 (va_cpy (S2 2) (S1_35 2) (0 : Int32).toNatClampNeg (0 : Int32).toNatClampNeg (8 : Int32).toNatClampNeg))), (w_X4 ad (b2) cs S2)]) := hD'
  replace hR := bn_e hR
  obtain ⟨S1_50, eS1_50, hR⟩ := hR
  replace hP : va_P (dC, dI) vwCl (fl [(w_X4 ad (b1) cs S1_50), (w_X4 ad (b2) cs S2)]) H50 := by rw [eS1_50]; exact hP'
  replace hD : va_D A (fl [(w_X4 ad (b1) cs S1_50), (w_X4 ad (b2) cs S2)]) := by rw [eS1_50]; exact hD'
  clear hP' hD' hS'
  refine lv_aload_n hx hb dX4_copy_53 rfl (lv_at hl 1 rfl) ?_
  refine va_get (D := (dC, dI)) (ci := 3) (v := .ref (ad (b2 + 4))) (C := RX4) (T := TX4) (N := 10) hx hb hts hinX4 hown hK hP 10 rfl rfl 4 (by decide) hF21 (fun _ h9 => h9) rfl dX4_copy_54 ?_
  refine lv_iconst (v := 0) hx hb dX4_copy_57 ic_0 ?_
  refine lv_aload_n hx hb dX4_copy_58 rfl (lv_at hl 0 rfl) ?_
  refine va_get (D := (dC, dI)) (ci := 3) (v := .ref (ad (b1 + 4))) (C := RX4) (T := TX4) (N := 10) hx hb hts hinX4 hown hK hP 0 rfl rfl 4 (by decide) hF21 (fun _ h9 => h9) rfl dX4_copy_59 ?_
  refine lv_iconst (v := 0) hx hb dX4_copy_62 ic_0 ?_
  refine lv_bipush (v := 8) hx hb dX4_copy_63 bp_8 ?_
  refine va_copyi hx hb (hml.trans hl.1.symm) hown (hts (.methodLink RX4 43 arraycopyName) (List.mem_of_getElem? (i := 3) rfl)) (hts (.native arraycopyName) (List.mem_of_getElem? (i := 4) rfl)) (hts (.static arraycopyName) (List.mem_of_getElem? (i := 5) rfl)) (hts (.initialized "java/lang/System") (List.mem_of_getElem? (i := 6) rfl)) hK hP hD hS 14 4 0 0 rfl rfl rfl rfl rfl (by decide) (by decide) (by decide) (by decide) (by decide) (fun _ _ => rfl) (Nat.le_of_ble_eq_true rfl) (Nat.le_of_ble_eq_true rfl) dX4_copy_65 (fun H65 locs65 hP' hD' hS' => ?_)
  replace hS := hS'
  have hP' : va_P (dC, dI) vwCl (fl [(w_X4 ad (b1) cs (sU S1_50 3 (va_cpy (S2 3) (S1_50 3) (0 : Int32).toNatClampNeg (0 : Int32).toNatClampNeg (8 : Int32).toNatClampNeg))), (w_X4 ad (b2) cs S2)]) H65 := hP'
  have hD' : va_D A (fl [(w_X4 ad (b1) cs (sU S1_50 3 (va_cpy (S2 3) (S1_50 3) (0 : Int32).toNatClampNeg (0 : Int32).toNatClampNeg (8 : Int32).toNatClampNeg))), (w_X4 ad (b2) cs S2)]) := hD'
  replace hR := bn_e hR
  obtain ⟨S1_65, eS1_65, hR⟩ := hR
  replace hP : va_P (dC, dI) vwCl (fl [(w_X4 ad (b1) cs S1_65), (w_X4 ad (b2) cs S2)]) H65 := by rw [eS1_65]; exact hP'
  replace hD : va_D A (fl [(w_X4 ad (b1) cs S1_65), (w_X4 ad (b2) cs S2)]) := by rw [eS1_65]; exact hD'
  clear hP' hD' hS'
  refine lv_aload_n hx hb dX4_copy_68 rfl (lv_at hl 1 rfl) ?_
  refine va_get (D := (dC, dI)) (ci := 3) (v := .ref (ad (b2 + 5))) (C := RX4) (T := TX4) (N := 10) hx hb hts hinX4 hown hK hP 10 rfl rfl 5 (by decide) hF24 (fun _ h9 => h9) rfl dX4_copy_69 ?_
  refine lv_iconst (v := 0) hx hb dX4_copy_72 ic_0 ?_
  refine lv_aload_n hx hb dX4_copy_73 rfl (lv_at hl 0 rfl) ?_
  refine va_get (D := (dC, dI)) (ci := 3) (v := .ref (ad (b1 + 5))) (C := RX4) (T := TX4) (N := 10) hx hb hts hinX4 hown hK hP 0 rfl rfl 5 (by decide) hF24 (fun _ h9 => h9) rfl dX4_copy_74 ?_
  refine lv_iconst (v := 0) hx hb dX4_copy_77 ic_0 ?_
  refine lv_bipush (v := 8) hx hb dX4_copy_78 bp_8 ?_
  refine va_copyi hx hb (hml.trans hl.1.symm) hown (hts (.methodLink RX4 43 arraycopyName) (List.mem_of_getElem? (i := 3) rfl)) (hts (.native arraycopyName) (List.mem_of_getElem? (i := 4) rfl)) (hts (.static arraycopyName) (List.mem_of_getElem? (i := 5) rfl)) (hts (.initialized "java/lang/System") (List.mem_of_getElem? (i := 6) rfl)) hK hP hD hS 15 5 0 0 rfl rfl rfl rfl rfl (by decide) (by decide) (by decide) (by decide) (by decide) (fun _ _ => rfl) (Nat.le_of_ble_eq_true rfl) (Nat.le_of_ble_eq_true rfl) dX4_copy_80 (fun H80 locs80 hP' hD' hS' => ?_)
  replace hS := hS'
  have hP' : va_P (dC, dI) vwCl (fl [(w_X4 ad (b1) cs (sU S1_65 4 (va_cpy (S2 4) (S1_65 4) (0 : Int32).toNatClampNeg (0 : Int32).toNatClampNeg (8 : Int32).toNatClampNeg))), (w_X4 ad (b2) cs S2)]) H80 := hP'
  have hD' : va_D A (fl [(w_X4 ad (b1) cs (sU S1_65 4 (va_cpy (S2 4) (S1_65 4) (0 : Int32).toNatClampNeg (0 : Int32).toNatClampNeg (8 : Int32).toNatClampNeg))), (w_X4 ad (b2) cs S2)]) := hD'
  replace hR := bn_e hR
  obtain ⟨S1_80, eS1_80, hR⟩ := hR
  replace hP : va_P (dC, dI) vwCl (fl [(w_X4 ad (b1) cs S1_80), (w_X4 ad (b2) cs S2)]) H80 := by rw [eS1_80]; exact hP'
  replace hD : va_D A (fl [(w_X4 ad (b1) cs S1_80), (w_X4 ad (b2) cs S2)]) := by rw [eS1_80]; exact hD'
  clear hP' hD' hS'
  refine lv_aload_n hx hb dX4_copy_83 rfl (lv_at hl 1 rfl) ?_
  refine va_get (D := (dC, dI)) (ci := 3) (v := .ref (ad (b2 + 6))) (C := RX4) (T := TX4) (N := 10) hx hb hts hinX4 hown hK hP 10 rfl rfl 6 (by decide) hF27 (fun _ h9 => h9) rfl dX4_copy_84 ?_
  refine lv_iconst (v := 0) hx hb dX4_copy_87 ic_0 ?_
  refine lv_aload_n hx hb dX4_copy_88 rfl (lv_at hl 0 rfl) ?_
  refine va_get (D := (dC, dI)) (ci := 3) (v := .ref (ad (b1 + 6))) (C := RX4) (T := TX4) (N := 10) hx hb hts hinX4 hown hK hP 0 rfl rfl 6 (by decide) hF27 (fun _ h9 => h9) rfl dX4_copy_89 ?_
  refine lv_iconst (v := 0) hx hb dX4_copy_92 ic_0 ?_
  refine lv_bipush (v := 8) hx hb dX4_copy_93 bp_8 ?_
  refine va_copyi hx hb (hml.trans hl.1.symm) hown (hts (.methodLink RX4 43 arraycopyName) (List.mem_of_getElem? (i := 3) rfl)) (hts (.native arraycopyName) (List.mem_of_getElem? (i := 4) rfl)) (hts (.static arraycopyName) (List.mem_of_getElem? (i := 5) rfl)) (hts (.initialized "java/lang/System") (List.mem_of_getElem? (i := 6) rfl)) hK hP hD hS 16 6 0 0 rfl rfl rfl rfl rfl (by decide) (by decide) (by decide) (by decide) (by decide) (fun _ _ => rfl) (Nat.le_of_ble_eq_true rfl) (Nat.le_of_ble_eq_true rfl) dX4_copy_95 (fun H95 locs95 hP' hD' hS' => ?_)
  replace hS := hS'
  have hP' : va_P (dC, dI) vwCl (fl [(w_X4 ad (b1) cs (sU S1_80 5 (va_cpy (S2 5) (S1_80 5) (0 : Int32).toNatClampNeg (0 : Int32).toNatClampNeg (8 : Int32).toNatClampNeg))), (w_X4 ad (b2) cs S2)]) H95 := hP'
  have hD' : va_D A (fl [(w_X4 ad (b1) cs (sU S1_80 5 (va_cpy (S2 5) (S1_80 5) (0 : Int32).toNatClampNeg (0 : Int32).toNatClampNeg (8 : Int32).toNatClampNeg))), (w_X4 ad (b2) cs S2)]) := hD'
  replace hR := bn_e hR
  obtain ⟨S1_95, eS1_95, hR⟩ := hR
  replace hP : va_P (dC, dI) vwCl (fl [(w_X4 ad (b1) cs S1_95), (w_X4 ad (b2) cs S2)]) H95 := by rw [eS1_95]; exact hP'
  replace hD : va_D A (fl [(w_X4 ad (b1) cs S1_95), (w_X4 ad (b2) cs S2)]) := by rw [eS1_95]; exact hD'
  clear hP' hD' hS'
  refine lv_aload_n hx hb dX4_copy_98 rfl (lv_at hl 1 rfl) ?_
  refine va_get (D := (dC, dI)) (ci := 3) (v := .ref (ad (b2 + 7))) (C := RX4) (T := TX4) (N := 10) hx hb hts hinX4 hown hK hP 10 rfl rfl 7 (by decide) hF30 (fun _ h9 => h9) rfl dX4_copy_99 ?_
  refine lv_iconst (v := 0) hx hb dX4_copy_102 ic_0 ?_
  refine lv_aload_n hx hb dX4_copy_103 rfl (lv_at hl 0 rfl) ?_
  refine va_get (D := (dC, dI)) (ci := 3) (v := .ref (ad (b1 + 7))) (C := RX4) (T := TX4) (N := 10) hx hb hts hinX4 hown hK hP 0 rfl rfl 7 (by decide) hF30 (fun _ h9 => h9) rfl dX4_copy_104 ?_
  refine lv_iconst (v := 0) hx hb dX4_copy_107 ic_0 ?_
  refine lv_bipush (v := 8) hx hb dX4_copy_108 bp_8 ?_
  refine va_copyi hx hb (hml.trans hl.1.symm) hown (hts (.methodLink RX4 43 arraycopyName) (List.mem_of_getElem? (i := 3) rfl)) (hts (.native arraycopyName) (List.mem_of_getElem? (i := 4) rfl)) (hts (.static arraycopyName) (List.mem_of_getElem? (i := 5) rfl)) (hts (.initialized "java/lang/System") (List.mem_of_getElem? (i := 6) rfl)) hK hP hD hS 17 7 0 0 rfl rfl rfl rfl rfl (by decide) (by decide) (by decide) (by decide) (by decide) (fun _ _ => rfl) (Nat.le_of_ble_eq_true rfl) (Nat.le_of_ble_eq_true rfl) dX4_copy_110 (fun H110 locs110 hP' hD' hS' => ?_)
  replace hS := hS'
  have hP' : va_P (dC, dI) vwCl (fl [(w_X4 ad (b1) cs (sU S1_95 6 (va_cpy (S2 6) (S1_95 6) (0 : Int32).toNatClampNeg (0 : Int32).toNatClampNeg (8 : Int32).toNatClampNeg))), (w_X4 ad (b2) cs S2)]) H110 := hP'
  have hD' : va_D A (fl [(w_X4 ad (b1) cs (sU S1_95 6 (va_cpy (S2 6) (S1_95 6) (0 : Int32).toNatClampNeg (0 : Int32).toNatClampNeg (8 : Int32).toNatClampNeg))), (w_X4 ad (b2) cs S2)]) := hD'
  replace hR := bn_e hR
  obtain ⟨S1_110, eS1_110, hR⟩ := hR
  replace hP : va_P (dC, dI) vwCl (fl [(w_X4 ad (b1) cs S1_110), (w_X4 ad (b2) cs S2)]) H110 := by rw [eS1_110]; exact hP'
  replace hD : va_D A (fl [(w_X4 ad (b1) cs S1_110), (w_X4 ad (b2) cs S2)]) := by rw [eS1_110]; exact hD'
  clear hP' hD' hS'
  refine lv_aload_n hx hb dX4_copy_113 rfl (lv_at hl 1 rfl) ?_
  refine va_get (D := (dC, dI)) (ci := 3) (v := .ref (ad (b2 + 8))) (C := RX4) (T := TX4) (N := 10) hx hb hts hinX4 hown hK hP 10 rfl rfl 8 (by decide) hF33 (fun _ h9 => h9) rfl dX4_copy_114 ?_
  refine lv_iconst (v := 0) hx hb dX4_copy_117 ic_0 ?_
  refine lv_aload_n hx hb dX4_copy_118 rfl (lv_at hl 0 rfl) ?_
  refine va_get (D := (dC, dI)) (ci := 3) (v := .ref (ad (b1 + 8))) (C := RX4) (T := TX4) (N := 10) hx hb hts hinX4 hown hK hP 0 rfl rfl 8 (by decide) hF33 (fun _ h9 => h9) rfl dX4_copy_119 ?_
  refine lv_iconst (v := 0) hx hb dX4_copy_122 ic_0 ?_
  refine lv_bipush (v := 8) hx hb dX4_copy_123 bp_8 ?_
  refine va_copyi hx hb (hml.trans hl.1.symm) hown (hts (.methodLink RX4 43 arraycopyName) (List.mem_of_getElem? (i := 3) rfl)) (hts (.native arraycopyName) (List.mem_of_getElem? (i := 4) rfl)) (hts (.static arraycopyName) (List.mem_of_getElem? (i := 5) rfl)) (hts (.initialized "java/lang/System") (List.mem_of_getElem? (i := 6) rfl)) hK hP hD hS 18 8 0 0 rfl rfl rfl rfl rfl (by decide) (by decide) (by decide) (by decide) (by decide) (fun _ _ => rfl) (Nat.le_of_ble_eq_true rfl) (Nat.le_of_ble_eq_true rfl) dX4_copy_125 (fun H125 locs125 hP' hD' hS' => ?_)
  replace hS := hS'
  have hP' : va_P (dC, dI) vwCl (fl [(w_X4 ad (b1) cs (sU S1_110 7 (va_cpy (S2 7) (S1_110 7) (0 : Int32).toNatClampNeg (0 : Int32).toNatClampNeg (8 : Int32).toNatClampNeg))), (w_X4 ad (b2) cs S2)]) H125 := hP'
  have hD' : va_D A (fl [(w_X4 ad (b1) cs (sU S1_110 7 (va_cpy (S2 7) (S1_110 7) (0 : Int32).toNatClampNeg (0 : Int32).toNatClampNeg (8 : Int32).toNatClampNeg))), (w_X4 ad (b2) cs S2)]) := hD'
  replace hR := bn_e hR
  obtain ⟨S1_125, eS1_125, hR⟩ := hR
  replace hP : va_P (dC, dI) vwCl (fl [(w_X4 ad (b1) cs S1_125), (w_X4 ad (b2) cs S2)]) H125 := by rw [eS1_125]; exact hP'
  replace hD : va_D A (fl [(w_X4 ad (b1) cs S1_125), (w_X4 ad (b2) cs S2)]) := by rw [eS1_125]; exact hD'
  clear hP' hD' hS'
  refine lv_aload_n hx hb dX4_copy_128 rfl (lv_at hl 1 rfl) ?_
  refine va_get (D := (dC, dI)) (ci := 3) (v := .ref (ad (b2 + 9))) (C := RX4) (T := TX4) (N := 10) hx hb hts hinX4 hown hK hP 10 rfl rfl 9 (by decide) hF36 (fun _ h9 => h9) rfl dX4_copy_129 ?_
  refine lv_iconst (v := 0) hx hb dX4_copy_132 ic_0 ?_
  refine lv_aload_n hx hb dX4_copy_133 rfl (lv_at hl 0 rfl) ?_
  refine va_get (D := (dC, dI)) (ci := 3) (v := .ref (ad (b1 + 9))) (C := RX4) (T := TX4) (N := 10) hx hb hts hinX4 hown hK hP 0 rfl rfl 9 (by decide) hF36 (fun _ h9 => h9) rfl dX4_copy_134 ?_
  refine lv_iconst (v := 0) hx hb dX4_copy_137 ic_0 ?_
  refine lv_bipush (v := 8) hx hb dX4_copy_138 bp_8 ?_
  refine va_copyi hx hb (hml.trans hl.1.symm) hown (hts (.methodLink RX4 43 arraycopyName) (List.mem_of_getElem? (i := 3) rfl)) (hts (.native arraycopyName) (List.mem_of_getElem? (i := 4) rfl)) (hts (.static arraycopyName) (List.mem_of_getElem? (i := 5) rfl)) (hts (.initialized "java/lang/System") (List.mem_of_getElem? (i := 6) rfl)) hK hP hD hS 19 9 0 0 rfl rfl rfl rfl rfl (by decide) (by decide) (by decide) (by decide) (by decide) (fun _ _ => rfl) (Nat.le_of_ble_eq_true rfl) (Nat.le_of_ble_eq_true rfl) dX4_copy_140 (fun H140 locs140 hP' hD' hS' => ?_)
  replace hS := hS'
  have hP' : va_P (dC, dI) vwCl (fl [(w_X4 ad (b1) cs (sU S1_125 8 (va_cpy (S2 8) (S1_125 8) (0 : Int32).toNatClampNeg (0 : Int32).toNatClampNeg (8 : Int32).toNatClampNeg))), (w_X4 ad (b2) cs S2)]) H140 := hP'
  have hD' : va_D A (fl [(w_X4 ad (b1) cs (sU S1_125 8 (va_cpy (S2 8) (S1_125 8) (0 : Int32).toNatClampNeg (0 : Int32).toNatClampNeg (8 : Int32).toNatClampNeg))), (w_X4 ad (b2) cs S2)]) := hD'
  replace hR := bn_e hR
  obtain ⟨S1_140, eS1_140, hR⟩ := hR
  replace hP : va_P (dC, dI) vwCl (fl [(w_X4 ad (b1) cs S1_140), (w_X4 ad (b2) cs S2)]) H140 := by rw [eS1_140]; exact hP'
  replace hD : va_D A (fl [(w_X4 ad (b1) cs S1_140), (w_X4 ad (b2) cs S2)]) := by rw [eS1_140]; exact hD'
  clear hP' hD' hS'
  replace hR := Option.some.inj hR
  have eu1 := hR
  replace hP : va_P (dC, dI) vwCl (fl [(w_X4 ad (b1) cs u1), (w_X4 ad (b2) cs S2)]) H140 := by rw [← eu1]; exact hP
  replace hD : va_D A (fl [(w_X4 ad (b1) cs u1), (w_X4 ad (b2) cs S2)]) := by rw [← eu1]; exact hD
  exact W.vret hx hb hr (fun t ht hW => ⟨⟨(), rfl, trivial, by rw [ht]; exact hP, va_K.moved hW.alike hK, hD⟩, hS.F ht⟩) hS.2.2 dX4_copy_143
set_option maxHeartbeats 8000000 in
set_option maxRecDepth 100000 in
theorem k_X8_copy (l : Launch) (dC : Nat → ClassId) (dI : Nat → Nat → Nat) (cs : Nat → ClassId) (ad : Nat → Nat) (b1 b2 : Nat) (sz : Nat) (S1 : T2) (S2 : T2) (u1 : T2) (hR : fX8_copy S1 S2 = some u1) : Met l yX8_copy wsX8_copy ({ frames := 1, cells := 0, slots := 0, locals := 30 } : Room) (va_Pc [.ref (ad b1), .ref (ad b2)] (pW dC dI (tyL cs) (fl [(w_X8 ad (b1) cs S1), (w_X8 ad (b2) cs S2)]) sz)) (QV dC dI (tyL cs) (va_A (fl [(w_X8 ad (b1) cs S1), (w_X8 ad (b2) cs S2)]) sz) (fl [(w_X8 ad (b1) cs u1), (w_X8 ad (b2) cs S2)])) 0 0 (va_A (fl [(w_X8 ad (b1) cs S1), (w_X8 ad (b2) cs S2)]) sz) := by
  refine mt_of (own := RX8) (cc := cX8_copy) (maxL := 2) (ret := none) (Qc := fun A => QV dC dI (tyL cs) A (fl [(w_X8 ad (b1) cs u1), (w_X8 ad (b2) cs S2)])) rfl (by decide) rfl (Nat.le_of_ble_eq_true rfl) (fun p e s m below meth c A ls hsz hx hb hr hts hown hlocks hml hA hK hP hD hS hl => ?_)
  subst hsz
  have hl : lv_has ls 2 [(0, .ref (ad b1)), (1, .ref (ad b2))] := hl
  have hF11 := hts (.fieldLink RX8 11 "DockedBikes$Vans" "station" "[I") (List.mem_of_getElem? (i := 2) rfl)
  have hF15 := hts (.fieldLink RX8 15 "DockedBikes$Vans" "room" "[I") (List.mem_of_getElem? (i := 7) rfl)
  have hF18 := hts (.fieldLink RX8 18 "DockedBikes$Vans" "arrival" "[I") (List.mem_of_getElem? (i := 8) rfl)
  have hF21 := hts (.fieldLink RX8 21 "DockedBikes$Vans" "size" "I") (List.mem_of_getElem? (i := 1) rfl)
  have hinX8 : ∀ w ∈ wsX80, w ∈ wsX8_copy := by decide +kernel
  refine lv_aload_n hx hb dX8_copy_0 rfl (lv_at hl 0 rfl) ?_
  refine lv_aload_n hx hb dX8_copy_1 rfl (lv_at hl 1 rfl) ?_
  refine va_get (D := (dC, dI)) (ci := 7) (v := .int (S2 3 0)) (C := RX8) (T := TX8) (N := 4) hx hb hts hinX8 hown hK hP 4 rfl rfl 0 (by decide) hF21 (fun _ h9 => h9) rfl dX8_copy_2 ?_
  refine va_put (D := (dC, dI)) (ci := 7) (v := .int (S2 3 0)) (ty := .int) (C := RX8) (T := TX8) (N := 4) hx hb hts hinX8 tyX8 tyX8_ok nmX8 hown hK hP hD hS 0 rfl rfl 0 (by decide) hF21 (fun _ h9 => h9) rfl (by decide +kernel) rfl rfl (Nat.le_of_ble_eq_true rfl) dX8_copy_5 (fun H5 locs5 hP' hD' hS' => ?_)
  replace hS := hS'
  have hP' : va_P (dC, dI) vwCl (fl [(w_X8 ad (b1) cs (sU S1 3 (sU (S1 3) 0 (S2 3 0)))), (w_X8 ad (b2) cs S2)]) H5 := hP'
  have hD' : va_D A (fl [(w_X8 ad (b1) cs (sU S1 3 (sU (S1 3) 0 (S2 3 0)))), (w_X8 ad (b2) cs S2)]) := hD'
  replace hR := bn_e hR
  obtain ⟨S1_5, eS1_5, hR⟩ := hR
  replace hP : va_P (dC, dI) vwCl (fl [(w_X8 ad (b1) cs S1_5), (w_X8 ad (b2) cs S2)]) H5 := by rw [eS1_5]; exact hP'
  replace hD : va_D A (fl [(w_X8 ad (b1) cs S1_5), (w_X8 ad (b2) cs S2)]) := by rw [eS1_5]; exact hD'
  clear hP' hD' hS'
  refine lv_aload_n hx hb dX8_copy_8 rfl (lv_at hl 1 rfl) ?_
  refine va_get (D := (dC, dI)) (ci := 7) (v := .ref (ad (b2 + 1))) (C := RX8) (T := TX8) (N := 4) hx hb hts hinX8 hown hK hP 4 rfl rfl 1 (by decide) hF11 (fun _ h9 => h9) rfl dX8_copy_9 ?_
  refine lv_iconst (v := 0) hx hb dX8_copy_12 ic_0 ?_
  refine lv_aload_n hx hb dX8_copy_13 rfl (lv_at hl 0 rfl) ?_
  refine va_get (D := (dC, dI)) (ci := 7) (v := .ref (ad (b1 + 1))) (C := RX8) (T := TX8) (N := 4) hx hb hts hinX8 hown hK hP 0 rfl rfl 1 (by decide) hF11 (fun _ h9 => h9) rfl dX8_copy_14 ?_
  refine lv_iconst (v := 0) hx hb dX8_copy_17 ic_0 ?_
  refine lv_iconst (v := 2) hx hb dX8_copy_18 ic_2 ?_
  refine va_copyi hx hb (hml.trans hl.1.symm) hown (hts (.methodLink RX8 25 arraycopyName) (List.mem_of_getElem? (i := 3) rfl)) (hts (.native arraycopyName) (List.mem_of_getElem? (i := 4) rfl)) (hts (.static arraycopyName) (List.mem_of_getElem? (i := 5) rfl)) (hts (.initialized "java/lang/System") (List.mem_of_getElem? (i := 6) rfl)) hK hP hD hS 5 1 0 0 rfl rfl rfl rfl rfl (by decide) (by decide) (by decide) (by decide) (by decide) (fun _ _ => rfl) (Nat.le_of_ble_eq_true rfl) (Nat.le_of_ble_eq_true rfl) dX8_copy_19 (fun H19 locs19 hP' hD' hS' => ?_)
  replace hS := hS'
  have hP' : va_P (dC, dI) vwCl (fl [(w_X8 ad (b1) cs (sU S1_5 0 (va_cpy (S2 0) (S1_5 0) (0 : Int32).toNatClampNeg (0 : Int32).toNatClampNeg (2 : Int32).toNatClampNeg))), (w_X8 ad (b2) cs S2)]) H19 := hP'
  have hD' : va_D A (fl [(w_X8 ad (b1) cs (sU S1_5 0 (va_cpy (S2 0) (S1_5 0) (0 : Int32).toNatClampNeg (0 : Int32).toNatClampNeg (2 : Int32).toNatClampNeg))), (w_X8 ad (b2) cs S2)]) := hD'
  replace hR := bn_e hR
  obtain ⟨S1_19, eS1_19, hR⟩ := hR
  replace hP : va_P (dC, dI) vwCl (fl [(w_X8 ad (b1) cs S1_19), (w_X8 ad (b2) cs S2)]) H19 := by rw [eS1_19]; exact hP'
  replace hD : va_D A (fl [(w_X8 ad (b1) cs S1_19), (w_X8 ad (b2) cs S2)]) := by rw [eS1_19]; exact hD'
  clear hP' hD' hS'
  refine lv_aload_n hx hb dX8_copy_22 rfl (lv_at hl 1 rfl) ?_
  refine va_get (D := (dC, dI)) (ci := 7) (v := .ref (ad (b2 + 2))) (C := RX8) (T := TX8) (N := 4) hx hb hts hinX8 hown hK hP 4 rfl rfl 2 (by decide) hF15 (fun _ h9 => h9) rfl dX8_copy_23 ?_
  refine lv_iconst (v := 0) hx hb dX8_copy_26 ic_0 ?_
  refine lv_aload_n hx hb dX8_copy_27 rfl (lv_at hl 0 rfl) ?_
  refine va_get (D := (dC, dI)) (ci := 7) (v := .ref (ad (b1 + 2))) (C := RX8) (T := TX8) (N := 4) hx hb hts hinX8 hown hK hP 0 rfl rfl 2 (by decide) hF15 (fun _ h9 => h9) rfl dX8_copy_28 ?_
  refine lv_iconst (v := 0) hx hb dX8_copy_31 ic_0 ?_
  refine lv_iconst (v := 2) hx hb dX8_copy_32 ic_2 ?_
  refine va_copyi hx hb (hml.trans hl.1.symm) hown (hts (.methodLink RX8 25 arraycopyName) (List.mem_of_getElem? (i := 3) rfl)) (hts (.native arraycopyName) (List.mem_of_getElem? (i := 4) rfl)) (hts (.static arraycopyName) (List.mem_of_getElem? (i := 5) rfl)) (hts (.initialized "java/lang/System") (List.mem_of_getElem? (i := 6) rfl)) hK hP hD hS 6 2 0 0 rfl rfl rfl rfl rfl (by decide) (by decide) (by decide) (by decide) (by decide) (fun _ _ => rfl) (Nat.le_of_ble_eq_true rfl) (Nat.le_of_ble_eq_true rfl) dX8_copy_33 (fun H33 locs33 hP' hD' hS' => ?_)
  replace hS := hS'
  have hP' : va_P (dC, dI) vwCl (fl [(w_X8 ad (b1) cs (sU S1_19 1 (va_cpy (S2 1) (S1_19 1) (0 : Int32).toNatClampNeg (0 : Int32).toNatClampNeg (2 : Int32).toNatClampNeg))), (w_X8 ad (b2) cs S2)]) H33 := hP'
  have hD' : va_D A (fl [(w_X8 ad (b1) cs (sU S1_19 1 (va_cpy (S2 1) (S1_19 1) (0 : Int32).toNatClampNeg (0 : Int32).toNatClampNeg (2 : Int32).toNatClampNeg))), (w_X8 ad (b2) cs S2)]) := hD'
  replace hR := bn_e hR
  obtain ⟨S1_33, eS1_33, hR⟩ := hR
  replace hP : va_P (dC, dI) vwCl (fl [(w_X8 ad (b1) cs S1_33), (w_X8 ad (b2) cs S2)]) H33 := by rw [eS1_33]; exact hP'
  replace hD : va_D A (fl [(w_X8 ad (b1) cs S1_33), (w_X8 ad (b2) cs S2)]) := by rw [eS1_33]; exact hD'
  clear hP' hD' hS'
  refine lv_aload_n hx hb dX8_copy_36 rfl (lv_at hl 1 rfl) ?_
  refine va_get (D := (dC, dI)) (ci := 7) (v := .ref (ad (b2 + 3))) (C := RX8) (T := TX8) (N := 4) hx hb hts hinX8 hown hK hP 4 rfl rfl 3 (by decide) hF18 (fun _ h9 => h9) rfl dX8_copy_37 ?_
  refine lv_iconst (v := 0) hx hb dX8_copy_40 ic_0 ?_
  refine lv_aload_n hx hb dX8_copy_41 rfl (lv_at hl 0 rfl) ?_
  refine va_get (D := (dC, dI)) (ci := 7) (v := .ref (ad (b1 + 3))) (C := RX8) (T := TX8) (N := 4) hx hb hts hinX8 hown hK hP 0 rfl rfl 3 (by decide) hF18 (fun _ h9 => h9) rfl dX8_copy_42 ?_
  refine lv_iconst (v := 0) hx hb dX8_copy_45 ic_0 ?_
  refine lv_iconst (v := 2) hx hb dX8_copy_46 ic_2 ?_
  refine va_copyi hx hb (hml.trans hl.1.symm) hown (hts (.methodLink RX8 25 arraycopyName) (List.mem_of_getElem? (i := 3) rfl)) (hts (.native arraycopyName) (List.mem_of_getElem? (i := 4) rfl)) (hts (.static arraycopyName) (List.mem_of_getElem? (i := 5) rfl)) (hts (.initialized "java/lang/System") (List.mem_of_getElem? (i := 6) rfl)) hK hP hD hS 7 3 0 0 rfl rfl rfl rfl rfl (by decide) (by decide) (by decide) (by decide) (by decide) (fun _ _ => rfl) (Nat.le_of_ble_eq_true rfl) (Nat.le_of_ble_eq_true rfl) dX8_copy_47 (fun H47 locs47 hP' hD' hS' => ?_)
  replace hS := hS'
  have hP' : va_P (dC, dI) vwCl (fl [(w_X8 ad (b1) cs (sU S1_33 2 (va_cpy (S2 2) (S1_33 2) (0 : Int32).toNatClampNeg (0 : Int32).toNatClampNeg (2 : Int32).toNatClampNeg))), (w_X8 ad (b2) cs S2)]) H47 := hP'
  have hD' : va_D A (fl [(w_X8 ad (b1) cs (sU S1_33 2 (va_cpy (S2 2) (S1_33 2) (0 : Int32).toNatClampNeg (0 : Int32).toNatClampNeg (2 : Int32).toNatClampNeg))), (w_X8 ad (b2) cs S2)]) := hD'
  replace hR := bn_e hR
  obtain ⟨S1_47, eS1_47, hR⟩ := hR
  replace hP : va_P (dC, dI) vwCl (fl [(w_X8 ad (b1) cs S1_47), (w_X8 ad (b2) cs S2)]) H47 := by rw [eS1_47]; exact hP'
  replace hD : va_D A (fl [(w_X8 ad (b1) cs S1_47), (w_X8 ad (b2) cs S2)]) := by rw [eS1_47]; exact hD'
  clear hP' hD' hS'
  replace hR := Option.some.inj hR
  have eu1 := hR
  replace hP : va_P (dC, dI) vwCl (fl [(w_X8 ad (b1) cs u1), (w_X8 ad (b2) cs S2)]) H47 := by rw [← eu1]; exact hP
  replace hD : va_D A (fl [(w_X8 ad (b1) cs u1), (w_X8 ad (b2) cs S2)]) := by rw [← eu1]; exact hD
  exact W.vret hx hb hr (fun t ht hW => ⟨⟨(), rfl, trivial, by rw [ht]; exact hP, va_K.moved hW.alike hK, hD⟩, hS.F ht⟩) hS.2.2 dX8_copy_50
set_option maxHeartbeats 8000000 in
set_option maxRecDepth 100000 in
theorem k_X5_copy (l : Launch) (dC : Nat → ClassId) (dI : Nat → Nat → Nat) (cs : Nat → ClassId) (ad : Nat → Nat) (b1 b2 : Nat) (sz : Nat) (S1 : T3) (S2 : T3) (u1 : T3) (hR : fX5_copy S1 S2 = some u1) : Met l yX5_copy wsX5_copy ({ frames := 2, cells := 0, slots := 0, locals := 51 } : Room) (va_Pc [.ref (ad b1), .ref (ad b2)] (pW dC dI (tyL cs) (fl [(w_X5 ad (b1) cs S1), (w_X5 ad (b2) cs S2)]) sz)) (QV dC dI (tyL cs) (va_A (fl [(w_X5 ad (b1) cs S1), (w_X5 ad (b2) cs S2)]) sz) (fl [(w_X5 ad (b1) cs u1), (w_X5 ad (b2) cs S2)])) 0 0 (va_A (fl [(w_X5 ad (b1) cs S1), (w_X5 ad (b2) cs S2)]) sz) := by
  refine mt_of (own := RX5) (cc := cX5_copy) (maxL := 2) (ret := none) (Qc := fun A => QV dC dI (tyL cs) A (fl [(w_X5 ad (b1) cs u1), (w_X5 ad (b2) cs S2)])) rfl (by decide) rfl (Nat.le_of_ble_eq_true rfl) (fun p e s m below meth c A ls hsz hx hb hr hts hown hlocks hml hA hK hP hD hS hl => ?_)
  subst hsz
  have hl : lv_has ls 2 [(0, .ref (ad b1)), (1, .ref (ad b2))] := hl
  have hF12 := hts (.fieldLink RX5 12 "DockedBikes$Road" "stations" "LDockedBikes$Stations;") (List.mem_of_getElem? (i := 1) rfl)
  have hF21 := hts (.fieldLink RX5 21 "DockedBikes$Road" "bicycles" "LDockedBikes$Bicycles;") (List.mem_of_getElem? (i := 2) rfl)
  have hF28 := hts (.fieldLink RX5 28 "DockedBikes$Road" "riders" "LDockedBikes$Riders;") (List.mem_of_getElem? (i := 3) rfl)
  have hF35 := hts (.fieldLink RX5 35 "DockedBikes$Road" "vans" "LDockedBikes$Vans;") (List.mem_of_getElem? (i := 4) rfl)
  have hF39 := hts (.fieldLink RX5 39 "DockedBikes$Road" "settings" "[I") (List.mem_of_getElem? (i := 5) rfl)
  have hF62 := hts (.fieldLink RX5 62 "DockedBikes$Road" "time" "I") (List.mem_of_getElem? (i := 10) rfl)
  have hinX5 : ∀ w ∈ wsX50, w ∈ wsX5_copy := by decide +kernel
  refine lv_aload_n hx hb dX5_copy_0 rfl (lv_at hl 0 rfl) ?_
  refine va_get (D := (dC, dI)) (ci := 4) (v := .ref (ad (b1 + 1))) (C := RX5) (T := TX5) (N := 6) hx hb hts hinX5 hown hK hP 0 rfl rfl 0 (by decide) hF12 (fun _ h9 => h9) rfl dX5_copy_1 ?_
  refine lv_aload_n hx hb dX5_copy_4 rfl (lv_at hl 1 rfl) ?_
  refine va_get (D := (dC, dI)) (ci := 4) (v := .ref (ad (b2 + 1))) (C := RX5) (T := TX5) (N := 6) hx hb hts hinX5 hown hK hP 28 rfl rfl 0 (by decide) hF12 (fun _ h9 => h9) rfl dX5_copy_5 ?_
  replace hR := bd_e hR
  obtain ⟨q8, gq8, hR⟩ := hR
  replace hP : va_P (dC, dI) vwCl (fl [[((ad b1), .inr (4, [.ref (ad (b1 + 1)), .ref (ad (b1 + 6)), .ref (ad (b1 + 13)), .ref (ad (b1 + 23)), .ref (ad (b1 + 27)), .int (S1 4 1 0)]))], (w_X6 ad (b1 + 1) cs (S1 0)), (w_X1 ad (b1 + 6) cs (S1 1)), (w_X4 ad (b1 + 13) cs (S1 2)), (w_X8 ad (b1 + 23) cs (S1 3)), [((ad (b1 + 27)), .inl (cs 0, 3, .inl (S1 4 0)))], [((ad b2), .inr (4, [.ref (ad (b2 + 1)), .ref (ad (b2 + 6)), .ref (ad (b2 + 13)), .ref (ad (b2 + 23)), .ref (ad (b2 + 27)), .int (S2 4 1 0)]))], (w_X6 ad (b2 + 1) cs (S2 0)), (w_X1 ad (b2 + 6) cs (S2 1)), (w_X4 ad (b2 + 13) cs (S2 2)), (w_X8 ad (b2 + 23) cs (S2 3)), [((ad (b2 + 27)), .inl (cs 0, 3, .inl (S2 4 0)))]]) s.heap := hP
  replace hD : va_D A (fl [[((ad b1), .inr (4, [.ref (ad (b1 + 1)), .ref (ad (b1 + 6)), .ref (ad (b1 + 13)), .ref (ad (b1 + 23)), .ref (ad (b1 + 27)), .int (S1 4 1 0)]))], (w_X6 ad (b1 + 1) cs (S1 0)), (w_X1 ad (b1 + 6) cs (S1 1)), (w_X4 ad (b1 + 13) cs (S1 2)), (w_X8 ad (b1 + 23) cs (S1 3)), [((ad (b1 + 27)), .inl (cs 0, 3, .inl (S1 4 0)))], [((ad b2), .inr (4, [.ref (ad (b2 + 1)), .ref (ad (b2 + 6)), .ref (ad (b2 + 13)), .ref (ad (b2 + 23)), .ref (ad (b2 + 27)), .int (S2 4 1 0)]))], (w_X6 ad (b2 + 1) cs (S2 0)), (w_X1 ad (b2 + 6) cs (S2 1)), (w_X4 ad (b2 + 13) cs (S2 2)), (w_X8 ad (b2 + 23) cs (S2 3)), [((ad (b2 + 27)), .inl (cs 0, 3, .inl (S2 4 0)))]]) := hD
  refine cl_Vv (As := [.ref (ad (b2 + 1))]) (rest := []) (L := [[((ad b1), .inr (4, [.ref (ad (b1 + 1)), .ref (ad (b1 + 6)), .ref (ad (b1 + 13)), .ref (ad (b1 + 23)), .ref (ad (b1 + 27)), .int (S1 4 1 0)]))], (w_X6 ad (b1 + 1) cs (S1 0)), (w_X1 ad (b1 + 6) cs (S1 1)), (w_X4 ad (b1 + 13) cs (S1 2)), (w_X8 ad (b1 + 23) cs (S1 3)), [((ad (b1 + 27)), .inl (cs 0, 3, .inl (S1 4 0)))], [((ad b2), .inr (4, [.ref (ad (b2 + 1)), .ref (ad (b2 + 6)), .ref (ad (b2 + 13)), .ref (ad (b2 + 23)), .ref (ad (b2 + 27)), .int (S2 4 1 0)]))], (w_X6 ad (b2 + 1) cs (S2 0)), (w_X1 ad (b2 + 6) cs (S2 1)), (w_X4 ad (b2 + 13) cs (S2 2)), (w_X8 ad (b2 + 23) cs (S2 3)), [((ad (b2 + 27)), .inl (cs 0, 3, .inl (S2 4 0)))]]) (L' := [[((ad b1), .inr (4, [.ref (ad (b1 + 1)), .ref (ad (b1 + 6)), .ref (ad (b1 + 13)), .ref (ad (b1 + 23)), .ref (ad (b1 + 27)), .int ((sU S1 0 q8) 4 1 0)]))], (w_X6 ad (b1 + 1) cs ((sU S1 0 q8) 0)), (w_X1 ad (b1 + 6) cs ((sU S1 0 q8) 1)), (w_X4 ad (b1 + 13) cs ((sU S1 0 q8) 2)), (w_X8 ad (b1 + 23) cs ((sU S1 0 q8) 3)), [((ad (b1 + 27)), .inl (cs 0, 3, .inl ((sU S1 0 q8) 4 0)))], [((ad b2), .inr (4, [.ref (ad (b2 + 1)), .ref (ad (b2 + 6)), .ref (ad (b2 + 13)), .ref (ad (b2 + 23)), .ref (ad (b2 + 27)), .int (S2 4 1 0)]))], (w_X6 ad (b2 + 1) cs (S2 0)), (w_X1 ad (b2 + 6) cs (S2 1)), (w_X4 ad (b2 + 13) cs (S2 2)), (w_X8 ad (b2 + 23) cs (S2 3)), [((ad (b2 + 27)), .inl (cs 0, 3, .inl (S2 4 0)))]]) (Wc := [(w_X6 ad (b1 + 1) cs (S1 0)), (w_X6 ad (b2 + 1) cs (S2 0))]) (Wc' := [(w_X6 ad (b1 + 1) cs q8), (w_X6 ad (b2 + 1) cs (S2 0))]) (is := [1, 7]) (js := [0, 2, 3, 4, 5, 6, 8, 9, 10, 11]) ⟨hx, hb, hml, hown, hts⟩ (k_X6_copy l dC dI cs ad (b1 + 1) (b2 + 1) s.heap.size (S1 0) (S2 0) q8 gq8) (cwV 1 hts gX5_copy_X6_copy rfl rfl rfl cd_X6_copy ⟨Nat.le_of_ble_eq_true rfl, Nat.le_of_ble_eq_true rfl⟩) hK hP hD hS hA ⟨rfl, rfl, rfl, rfl, rfl, rfl⟩ (jn_nd (is := [1, 7]) hD rfl rfl) 1 5 rfl rfl rfl rfl rfl hl.1 (Nat.le_of_ble_eq_true rfl) dX5_copy_8 (fun H8 locs8 hP' hD' hS' => ?_)
  replace hS := hS'
  have hP' : va_P (dC, dI) vwCl (fl [(w_X5 ad (b1) cs (sU S1 0 q8)), (w_X5 ad (b2) cs S2)]) H8 := hP'
  have hD' : va_D A (fl [(w_X5 ad (b1) cs (sU S1 0 q8)), (w_X5 ad (b2) cs S2)]) := hD'
  replace hR := bn_e hR
  obtain ⟨S1_8, eS1_8, hR⟩ := hR
  replace hP : va_P (dC, dI) vwCl (fl [(w_X5 ad (b1) cs S1_8), (w_X5 ad (b2) cs S2)]) H8 := by rw [eS1_8]; exact hP'
  replace hD : va_D A (fl [(w_X5 ad (b1) cs S1_8), (w_X5 ad (b2) cs S2)]) := by rw [eS1_8]; exact hD'
  clear hP' hD' hS'
  refine lv_aload_n hx hb dX5_copy_11 rfl (lv_at hl 0 rfl) ?_
  refine va_get (D := (dC, dI)) (ci := 4) (v := .ref (ad (b1 + 6))) (C := RX5) (T := TX5) (N := 6) hx hb hts hinX5 hown hK hP 0 rfl rfl 1 (by decide) hF21 (fun _ h9 => h9) rfl dX5_copy_12 ?_
  refine lv_aload_n hx hb dX5_copy_15 rfl (lv_at hl 1 rfl) ?_
  refine va_get (D := (dC, dI)) (ci := 4) (v := .ref (ad (b2 + 6))) (C := RX5) (T := TX5) (N := 6) hx hb hts hinX5 hown hK hP 28 rfl rfl 1 (by decide) hF21 (fun _ h9 => h9) rfl dX5_copy_16 ?_
  replace hR := bd_e hR
  obtain ⟨q19, gq19, hR⟩ := hR
  replace hP : va_P (dC, dI) vwCl (fl [[((ad b1), .inr (4, [.ref (ad (b1 + 1)), .ref (ad (b1 + 6)), .ref (ad (b1 + 13)), .ref (ad (b1 + 23)), .ref (ad (b1 + 27)), .int (S1_8 4 1 0)]))], (w_X6 ad (b1 + 1) cs (S1_8 0)), (w_X1 ad (b1 + 6) cs (S1_8 1)), (w_X4 ad (b1 + 13) cs (S1_8 2)), (w_X8 ad (b1 + 23) cs (S1_8 3)), [((ad (b1 + 27)), .inl (cs 0, 3, .inl (S1_8 4 0)))], [((ad b2), .inr (4, [.ref (ad (b2 + 1)), .ref (ad (b2 + 6)), .ref (ad (b2 + 13)), .ref (ad (b2 + 23)), .ref (ad (b2 + 27)), .int (S2 4 1 0)]))], (w_X6 ad (b2 + 1) cs (S2 0)), (w_X1 ad (b2 + 6) cs (S2 1)), (w_X4 ad (b2 + 13) cs (S2 2)), (w_X8 ad (b2 + 23) cs (S2 3)), [((ad (b2 + 27)), .inl (cs 0, 3, .inl (S2 4 0)))]]) H8 := hP
  replace hD : va_D A (fl [[((ad b1), .inr (4, [.ref (ad (b1 + 1)), .ref (ad (b1 + 6)), .ref (ad (b1 + 13)), .ref (ad (b1 + 23)), .ref (ad (b1 + 27)), .int (S1_8 4 1 0)]))], (w_X6 ad (b1 + 1) cs (S1_8 0)), (w_X1 ad (b1 + 6) cs (S1_8 1)), (w_X4 ad (b1 + 13) cs (S1_8 2)), (w_X8 ad (b1 + 23) cs (S1_8 3)), [((ad (b1 + 27)), .inl (cs 0, 3, .inl (S1_8 4 0)))], [((ad b2), .inr (4, [.ref (ad (b2 + 1)), .ref (ad (b2 + 6)), .ref (ad (b2 + 13)), .ref (ad (b2 + 23)), .ref (ad (b2 + 27)), .int (S2 4 1 0)]))], (w_X6 ad (b2 + 1) cs (S2 0)), (w_X1 ad (b2 + 6) cs (S2 1)), (w_X4 ad (b2 + 13) cs (S2 2)), (w_X8 ad (b2 + 23) cs (S2 3)), [((ad (b2 + 27)), .inl (cs 0, 3, .inl (S2 4 0)))]]) := hD
  refine cl_Vv (As := [.ref (ad (b2 + 6))]) (rest := []) (L := [[((ad b1), .inr (4, [.ref (ad (b1 + 1)), .ref (ad (b1 + 6)), .ref (ad (b1 + 13)), .ref (ad (b1 + 23)), .ref (ad (b1 + 27)), .int (S1_8 4 1 0)]))], (w_X6 ad (b1 + 1) cs (S1_8 0)), (w_X1 ad (b1 + 6) cs (S1_8 1)), (w_X4 ad (b1 + 13) cs (S1_8 2)), (w_X8 ad (b1 + 23) cs (S1_8 3)), [((ad (b1 + 27)), .inl (cs 0, 3, .inl (S1_8 4 0)))], [((ad b2), .inr (4, [.ref (ad (b2 + 1)), .ref (ad (b2 + 6)), .ref (ad (b2 + 13)), .ref (ad (b2 + 23)), .ref (ad (b2 + 27)), .int (S2 4 1 0)]))], (w_X6 ad (b2 + 1) cs (S2 0)), (w_X1 ad (b2 + 6) cs (S2 1)), (w_X4 ad (b2 + 13) cs (S2 2)), (w_X8 ad (b2 + 23) cs (S2 3)), [((ad (b2 + 27)), .inl (cs 0, 3, .inl (S2 4 0)))]]) (L' := [[((ad b1), .inr (4, [.ref (ad (b1 + 1)), .ref (ad (b1 + 6)), .ref (ad (b1 + 13)), .ref (ad (b1 + 23)), .ref (ad (b1 + 27)), .int ((sU S1_8 1 q19) 4 1 0)]))], (w_X6 ad (b1 + 1) cs ((sU S1_8 1 q19) 0)), (w_X1 ad (b1 + 6) cs ((sU S1_8 1 q19) 1)), (w_X4 ad (b1 + 13) cs ((sU S1_8 1 q19) 2)), (w_X8 ad (b1 + 23) cs ((sU S1_8 1 q19) 3)), [((ad (b1 + 27)), .inl (cs 0, 3, .inl ((sU S1_8 1 q19) 4 0)))], [((ad b2), .inr (4, [.ref (ad (b2 + 1)), .ref (ad (b2 + 6)), .ref (ad (b2 + 13)), .ref (ad (b2 + 23)), .ref (ad (b2 + 27)), .int (S2 4 1 0)]))], (w_X6 ad (b2 + 1) cs (S2 0)), (w_X1 ad (b2 + 6) cs (S2 1)), (w_X4 ad (b2 + 13) cs (S2 2)), (w_X8 ad (b2 + 23) cs (S2 3)), [((ad (b2 + 27)), .inl (cs 0, 3, .inl (S2 4 0)))]]) (Wc := [(w_X1 ad (b1 + 6) cs (S1_8 1)), (w_X1 ad (b2 + 6) cs (S2 1))]) (Wc' := [(w_X1 ad (b1 + 6) cs q19), (w_X1 ad (b2 + 6) cs (S2 1))]) (is := [2, 8]) (js := [0, 1, 3, 4, 5, 6, 7, 9, 10, 11]) ⟨hx, hb, hml, hown, hts⟩ (k_X1_copy l dC dI cs ad (b1 + 6) (b2 + 6) H8.size (S1_8 1) (S2 1) q19 gq19) (cwV 1 hts gX5_copy_X1_copy rfl rfl rfl cd_X1_copy ⟨Nat.le_of_ble_eq_true rfl, Nat.le_of_ble_eq_true rfl⟩) hK hP hD hS hA ⟨rfl, rfl, rfl, rfl, rfl, rfl⟩ (jn_nd (is := [2, 8]) hD rfl rfl) 6 0 rfl rfl rfl rfl rfl hl.1 (Nat.le_of_ble_eq_true rfl) dX5_copy_19 (fun H19 locs19 hP' hD' hS' => ?_)
  replace hS := hS'
  have hP' : va_P (dC, dI) vwCl (fl [(w_X5 ad (b1) cs (sU S1_8 1 q19)), (w_X5 ad (b2) cs S2)]) H19 := hP'
  have hD' : va_D A (fl [(w_X5 ad (b1) cs (sU S1_8 1 q19)), (w_X5 ad (b2) cs S2)]) := hD'
  replace hR := bn_e hR
  obtain ⟨S1_19, eS1_19, hR⟩ := hR
  replace hP : va_P (dC, dI) vwCl (fl [(w_X5 ad (b1) cs S1_19), (w_X5 ad (b2) cs S2)]) H19 := by rw [eS1_19]; exact hP'
  replace hD : va_D A (fl [(w_X5 ad (b1) cs S1_19), (w_X5 ad (b2) cs S2)]) := by rw [eS1_19]; exact hD'
  clear hP' hD' hS'
  refine lv_aload_n hx hb dX5_copy_22 rfl (lv_at hl 0 rfl) ?_
  refine va_get (D := (dC, dI)) (ci := 4) (v := .ref (ad (b1 + 13))) (C := RX5) (T := TX5) (N := 6) hx hb hts hinX5 hown hK hP 0 rfl rfl 2 (by decide) hF28 (fun _ h9 => h9) rfl dX5_copy_23 ?_
  refine lv_aload_n hx hb dX5_copy_26 rfl (lv_at hl 1 rfl) ?_
  refine va_get (D := (dC, dI)) (ci := 4) (v := .ref (ad (b2 + 13))) (C := RX5) (T := TX5) (N := 6) hx hb hts hinX5 hown hK hP 28 rfl rfl 2 (by decide) hF28 (fun _ h9 => h9) rfl dX5_copy_27 ?_
  replace hR := bd_e hR
  obtain ⟨q30, gq30, hR⟩ := hR
  replace hP : va_P (dC, dI) vwCl (fl [[((ad b1), .inr (4, [.ref (ad (b1 + 1)), .ref (ad (b1 + 6)), .ref (ad (b1 + 13)), .ref (ad (b1 + 23)), .ref (ad (b1 + 27)), .int (S1_19 4 1 0)]))], (w_X6 ad (b1 + 1) cs (S1_19 0)), (w_X1 ad (b1 + 6) cs (S1_19 1)), (w_X4 ad (b1 + 13) cs (S1_19 2)), (w_X8 ad (b1 + 23) cs (S1_19 3)), [((ad (b1 + 27)), .inl (cs 0, 3, .inl (S1_19 4 0)))], [((ad b2), .inr (4, [.ref (ad (b2 + 1)), .ref (ad (b2 + 6)), .ref (ad (b2 + 13)), .ref (ad (b2 + 23)), .ref (ad (b2 + 27)), .int (S2 4 1 0)]))], (w_X6 ad (b2 + 1) cs (S2 0)), (w_X1 ad (b2 + 6) cs (S2 1)), (w_X4 ad (b2 + 13) cs (S2 2)), (w_X8 ad (b2 + 23) cs (S2 3)), [((ad (b2 + 27)), .inl (cs 0, 3, .inl (S2 4 0)))]]) H19 := hP
  replace hD : va_D A (fl [[((ad b1), .inr (4, [.ref (ad (b1 + 1)), .ref (ad (b1 + 6)), .ref (ad (b1 + 13)), .ref (ad (b1 + 23)), .ref (ad (b1 + 27)), .int (S1_19 4 1 0)]))], (w_X6 ad (b1 + 1) cs (S1_19 0)), (w_X1 ad (b1 + 6) cs (S1_19 1)), (w_X4 ad (b1 + 13) cs (S1_19 2)), (w_X8 ad (b1 + 23) cs (S1_19 3)), [((ad (b1 + 27)), .inl (cs 0, 3, .inl (S1_19 4 0)))], [((ad b2), .inr (4, [.ref (ad (b2 + 1)), .ref (ad (b2 + 6)), .ref (ad (b2 + 13)), .ref (ad (b2 + 23)), .ref (ad (b2 + 27)), .int (S2 4 1 0)]))], (w_X6 ad (b2 + 1) cs (S2 0)), (w_X1 ad (b2 + 6) cs (S2 1)), (w_X4 ad (b2 + 13) cs (S2 2)), (w_X8 ad (b2 + 23) cs (S2 3)), [((ad (b2 + 27)), .inl (cs 0, 3, .inl (S2 4 0)))]]) := hD
  refine cl_Vv (As := [.ref (ad (b2 + 13))]) (rest := []) (L := [[((ad b1), .inr (4, [.ref (ad (b1 + 1)), .ref (ad (b1 + 6)), .ref (ad (b1 + 13)), .ref (ad (b1 + 23)), .ref (ad (b1 + 27)), .int (S1_19 4 1 0)]))], (w_X6 ad (b1 + 1) cs (S1_19 0)), (w_X1 ad (b1 + 6) cs (S1_19 1)), (w_X4 ad (b1 + 13) cs (S1_19 2)), (w_X8 ad (b1 + 23) cs (S1_19 3)), [((ad (b1 + 27)), .inl (cs 0, 3, .inl (S1_19 4 0)))], [((ad b2), .inr (4, [.ref (ad (b2 + 1)), .ref (ad (b2 + 6)), .ref (ad (b2 + 13)), .ref (ad (b2 + 23)), .ref (ad (b2 + 27)), .int (S2 4 1 0)]))], (w_X6 ad (b2 + 1) cs (S2 0)), (w_X1 ad (b2 + 6) cs (S2 1)), (w_X4 ad (b2 + 13) cs (S2 2)), (w_X8 ad (b2 + 23) cs (S2 3)), [((ad (b2 + 27)), .inl (cs 0, 3, .inl (S2 4 0)))]]) (L' := [[((ad b1), .inr (4, [.ref (ad (b1 + 1)), .ref (ad (b1 + 6)), .ref (ad (b1 + 13)), .ref (ad (b1 + 23)), .ref (ad (b1 + 27)), .int ((sU S1_19 2 q30) 4 1 0)]))], (w_X6 ad (b1 + 1) cs ((sU S1_19 2 q30) 0)), (w_X1 ad (b1 + 6) cs ((sU S1_19 2 q30) 1)), (w_X4 ad (b1 + 13) cs ((sU S1_19 2 q30) 2)), (w_X8 ad (b1 + 23) cs ((sU S1_19 2 q30) 3)), [((ad (b1 + 27)), .inl (cs 0, 3, .inl ((sU S1_19 2 q30) 4 0)))], [((ad b2), .inr (4, [.ref (ad (b2 + 1)), .ref (ad (b2 + 6)), .ref (ad (b2 + 13)), .ref (ad (b2 + 23)), .ref (ad (b2 + 27)), .int (S2 4 1 0)]))], (w_X6 ad (b2 + 1) cs (S2 0)), (w_X1 ad (b2 + 6) cs (S2 1)), (w_X4 ad (b2 + 13) cs (S2 2)), (w_X8 ad (b2 + 23) cs (S2 3)), [((ad (b2 + 27)), .inl (cs 0, 3, .inl (S2 4 0)))]]) (Wc := [(w_X4 ad (b1 + 13) cs (S1_19 2)), (w_X4 ad (b2 + 13) cs (S2 2))]) (Wc' := [(w_X4 ad (b1 + 13) cs q30), (w_X4 ad (b2 + 13) cs (S2 2))]) (is := [3, 9]) (js := [0, 1, 2, 4, 5, 6, 7, 8, 10, 11]) ⟨hx, hb, hml, hown, hts⟩ (k_X4_copy l dC dI cs ad (b1 + 13) (b2 + 13) H19.size (S1_19 2) (S2 2) q30 gq30) (cwV 1 hts gX5_copy_X4_copy rfl rfl rfl cd_X4_copy ⟨Nat.le_of_ble_eq_true rfl, Nat.le_of_ble_eq_true rfl⟩) hK hP hD hS hA ⟨rfl, rfl, rfl, rfl, rfl, rfl⟩ (jn_nd (is := [3, 9]) hD rfl rfl) 13 3 rfl rfl rfl rfl rfl hl.1 (Nat.le_of_ble_eq_true rfl) dX5_copy_30 (fun H30 locs30 hP' hD' hS' => ?_)
  replace hS := hS'
  have hP' : va_P (dC, dI) vwCl (fl [(w_X5 ad (b1) cs (sU S1_19 2 q30)), (w_X5 ad (b2) cs S2)]) H30 := hP'
  have hD' : va_D A (fl [(w_X5 ad (b1) cs (sU S1_19 2 q30)), (w_X5 ad (b2) cs S2)]) := hD'
  replace hR := bn_e hR
  obtain ⟨S1_30, eS1_30, hR⟩ := hR
  replace hP : va_P (dC, dI) vwCl (fl [(w_X5 ad (b1) cs S1_30), (w_X5 ad (b2) cs S2)]) H30 := by rw [eS1_30]; exact hP'
  replace hD : va_D A (fl [(w_X5 ad (b1) cs S1_30), (w_X5 ad (b2) cs S2)]) := by rw [eS1_30]; exact hD'
  clear hP' hD' hS'
  refine lv_aload_n hx hb dX5_copy_33 rfl (lv_at hl 0 rfl) ?_
  refine va_get (D := (dC, dI)) (ci := 4) (v := .ref (ad (b1 + 23))) (C := RX5) (T := TX5) (N := 6) hx hb hts hinX5 hown hK hP 0 rfl rfl 3 (by decide) hF35 (fun _ h9 => h9) rfl dX5_copy_34 ?_
  refine lv_aload_n hx hb dX5_copy_37 rfl (lv_at hl 1 rfl) ?_
  refine va_get (D := (dC, dI)) (ci := 4) (v := .ref (ad (b2 + 23))) (C := RX5) (T := TX5) (N := 6) hx hb hts hinX5 hown hK hP 28 rfl rfl 3 (by decide) hF35 (fun _ h9 => h9) rfl dX5_copy_38 ?_
  replace hR := bd_e hR
  obtain ⟨q41, gq41, hR⟩ := hR
  replace hP : va_P (dC, dI) vwCl (fl [[((ad b1), .inr (4, [.ref (ad (b1 + 1)), .ref (ad (b1 + 6)), .ref (ad (b1 + 13)), .ref (ad (b1 + 23)), .ref (ad (b1 + 27)), .int (S1_30 4 1 0)]))], (w_X6 ad (b1 + 1) cs (S1_30 0)), (w_X1 ad (b1 + 6) cs (S1_30 1)), (w_X4 ad (b1 + 13) cs (S1_30 2)), (w_X8 ad (b1 + 23) cs (S1_30 3)), [((ad (b1 + 27)), .inl (cs 0, 3, .inl (S1_30 4 0)))], [((ad b2), .inr (4, [.ref (ad (b2 + 1)), .ref (ad (b2 + 6)), .ref (ad (b2 + 13)), .ref (ad (b2 + 23)), .ref (ad (b2 + 27)), .int (S2 4 1 0)]))], (w_X6 ad (b2 + 1) cs (S2 0)), (w_X1 ad (b2 + 6) cs (S2 1)), (w_X4 ad (b2 + 13) cs (S2 2)), (w_X8 ad (b2 + 23) cs (S2 3)), [((ad (b2 + 27)), .inl (cs 0, 3, .inl (S2 4 0)))]]) H30 := hP
  replace hD : va_D A (fl [[((ad b1), .inr (4, [.ref (ad (b1 + 1)), .ref (ad (b1 + 6)), .ref (ad (b1 + 13)), .ref (ad (b1 + 23)), .ref (ad (b1 + 27)), .int (S1_30 4 1 0)]))], (w_X6 ad (b1 + 1) cs (S1_30 0)), (w_X1 ad (b1 + 6) cs (S1_30 1)), (w_X4 ad (b1 + 13) cs (S1_30 2)), (w_X8 ad (b1 + 23) cs (S1_30 3)), [((ad (b1 + 27)), .inl (cs 0, 3, .inl (S1_30 4 0)))], [((ad b2), .inr (4, [.ref (ad (b2 + 1)), .ref (ad (b2 + 6)), .ref (ad (b2 + 13)), .ref (ad (b2 + 23)), .ref (ad (b2 + 27)), .int (S2 4 1 0)]))], (w_X6 ad (b2 + 1) cs (S2 0)), (w_X1 ad (b2 + 6) cs (S2 1)), (w_X4 ad (b2 + 13) cs (S2 2)), (w_X8 ad (b2 + 23) cs (S2 3)), [((ad (b2 + 27)), .inl (cs 0, 3, .inl (S2 4 0)))]]) := hD
  refine cl_Vv (As := [.ref (ad (b2 + 23))]) (rest := []) (L := [[((ad b1), .inr (4, [.ref (ad (b1 + 1)), .ref (ad (b1 + 6)), .ref (ad (b1 + 13)), .ref (ad (b1 + 23)), .ref (ad (b1 + 27)), .int (S1_30 4 1 0)]))], (w_X6 ad (b1 + 1) cs (S1_30 0)), (w_X1 ad (b1 + 6) cs (S1_30 1)), (w_X4 ad (b1 + 13) cs (S1_30 2)), (w_X8 ad (b1 + 23) cs (S1_30 3)), [((ad (b1 + 27)), .inl (cs 0, 3, .inl (S1_30 4 0)))], [((ad b2), .inr (4, [.ref (ad (b2 + 1)), .ref (ad (b2 + 6)), .ref (ad (b2 + 13)), .ref (ad (b2 + 23)), .ref (ad (b2 + 27)), .int (S2 4 1 0)]))], (w_X6 ad (b2 + 1) cs (S2 0)), (w_X1 ad (b2 + 6) cs (S2 1)), (w_X4 ad (b2 + 13) cs (S2 2)), (w_X8 ad (b2 + 23) cs (S2 3)), [((ad (b2 + 27)), .inl (cs 0, 3, .inl (S2 4 0)))]]) (L' := [[((ad b1), .inr (4, [.ref (ad (b1 + 1)), .ref (ad (b1 + 6)), .ref (ad (b1 + 13)), .ref (ad (b1 + 23)), .ref (ad (b1 + 27)), .int ((sU S1_30 3 q41) 4 1 0)]))], (w_X6 ad (b1 + 1) cs ((sU S1_30 3 q41) 0)), (w_X1 ad (b1 + 6) cs ((sU S1_30 3 q41) 1)), (w_X4 ad (b1 + 13) cs ((sU S1_30 3 q41) 2)), (w_X8 ad (b1 + 23) cs ((sU S1_30 3 q41) 3)), [((ad (b1 + 27)), .inl (cs 0, 3, .inl ((sU S1_30 3 q41) 4 0)))], [((ad b2), .inr (4, [.ref (ad (b2 + 1)), .ref (ad (b2 + 6)), .ref (ad (b2 + 13)), .ref (ad (b2 + 23)), .ref (ad (b2 + 27)), .int (S2 4 1 0)]))], (w_X6 ad (b2 + 1) cs (S2 0)), (w_X1 ad (b2 + 6) cs (S2 1)), (w_X4 ad (b2 + 13) cs (S2 2)), (w_X8 ad (b2 + 23) cs (S2 3)), [((ad (b2 + 27)), .inl (cs 0, 3, .inl (S2 4 0)))]]) (Wc := [(w_X8 ad (b1 + 23) cs (S1_30 3)), (w_X8 ad (b2 + 23) cs (S2 3))]) (Wc' := [(w_X8 ad (b1 + 23) cs q41), (w_X8 ad (b2 + 23) cs (S2 3))]) (is := [4, 10]) (js := [0, 1, 2, 3, 5, 6, 7, 8, 9, 11]) ⟨hx, hb, hml, hown, hts⟩ (k_X8_copy l dC dI cs ad (b1 + 23) (b2 + 23) H30.size (S1_30 3) (S2 3) q41 gq41) (cwV 1 hts gX5_copy_X8_copy rfl rfl rfl cd_X8_copy ⟨Nat.le_of_ble_eq_true rfl, Nat.le_of_ble_eq_true rfl⟩) hK hP hD hS hA ⟨rfl, rfl, rfl, rfl, rfl, rfl⟩ (jn_nd (is := [4, 10]) hD rfl rfl) 23 7 rfl rfl rfl rfl rfl hl.1 (Nat.le_of_ble_eq_true rfl) dX5_copy_41 (fun H41 locs41 hP' hD' hS' => ?_)
  replace hS := hS'
  have hP' : va_P (dC, dI) vwCl (fl [(w_X5 ad (b1) cs (sU S1_30 3 q41)), (w_X5 ad (b2) cs S2)]) H41 := hP'
  have hD' : va_D A (fl [(w_X5 ad (b1) cs (sU S1_30 3 q41)), (w_X5 ad (b2) cs S2)]) := hD'
  replace hR := bn_e hR
  obtain ⟨S1_41, eS1_41, hR⟩ := hR
  replace hP : va_P (dC, dI) vwCl (fl [(w_X5 ad (b1) cs S1_41), (w_X5 ad (b2) cs S2)]) H41 := by rw [eS1_41]; exact hP'
  replace hD : va_D A (fl [(w_X5 ad (b1) cs S1_41), (w_X5 ad (b2) cs S2)]) := by rw [eS1_41]; exact hD'
  clear hP' hD' hS'
  refine lv_aload_n hx hb dX5_copy_44 rfl (lv_at hl 1 rfl) ?_
  refine va_get (D := (dC, dI)) (ci := 4) (v := .ref (ad (b2 + 27))) (C := RX5) (T := TX5) (N := 6) hx hb hts hinX5 hown hK hP 28 rfl rfl 4 (by decide) hF39 (fun _ h9 => h9) rfl dX5_copy_45 ?_
  refine lv_iconst (v := 0) hx hb dX5_copy_48 ic_0 ?_
  refine lv_aload_n hx hb dX5_copy_49 rfl (lv_at hl 0 rfl) ?_
  refine va_get (D := (dC, dI)) (ci := 4) (v := .ref (ad (b1 + 27))) (C := RX5) (T := TX5) (N := 6) hx hb hts hinX5 hown hK hP 0 rfl rfl 4 (by decide) hF39 (fun _ h9 => h9) rfl dX5_copy_50 ?_
  refine lv_iconst (v := 0) hx hb dX5_copy_53 ic_0 ?_
  refine lv_iconst (v := 3) hx hb dX5_copy_54 ic_3 ?_
  refine va_copyi hx hb (hml.trans hl.1.symm) hown (hts (.methodLink RX5 56 arraycopyName) (List.mem_of_getElem? (i := 6) rfl)) (hts (.native arraycopyName) (List.mem_of_getElem? (i := 7) rfl)) (hts (.static arraycopyName) (List.mem_of_getElem? (i := 8) rfl)) (hts (.initialized "java/lang/System") (List.mem_of_getElem? (i := 9) rfl)) hK hP hD hS 55 27 0 0 rfl rfl rfl rfl rfl (by decide) (by decide) (by decide) (by decide) (by decide) (fun _ _ => rfl) (Nat.le_of_ble_eq_true rfl) (Nat.le_of_ble_eq_true rfl) dX5_copy_55 (fun H55 locs55 hP' hD' hS' => ?_)
  replace hS := hS'
  have hP' : va_P (dC, dI) vwCl (fl [(w_X5 ad (b1) cs (sU S1_41 4 (sU (S1_41 4) 0 (va_cpy (S2 4 0) (S1_41 4 0) (0 : Int32).toNatClampNeg (0 : Int32).toNatClampNeg (3 : Int32).toNatClampNeg)))), (w_X5 ad (b2) cs S2)]) H55 := hP'
  have hD' : va_D A (fl [(w_X5 ad (b1) cs (sU S1_41 4 (sU (S1_41 4) 0 (va_cpy (S2 4 0) (S1_41 4 0) (0 : Int32).toNatClampNeg (0 : Int32).toNatClampNeg (3 : Int32).toNatClampNeg)))), (w_X5 ad (b2) cs S2)]) := hD'
  replace hR := bn_e hR
  obtain ⟨S1_55, eS1_55, hR⟩ := hR
  replace hP : va_P (dC, dI) vwCl (fl [(w_X5 ad (b1) cs S1_55), (w_X5 ad (b2) cs S2)]) H55 := by rw [eS1_55]; exact hP'
  replace hD : va_D A (fl [(w_X5 ad (b1) cs S1_55), (w_X5 ad (b2) cs S2)]) := by rw [eS1_55]; exact hD'
  clear hP' hD' hS'
  refine lv_aload_n hx hb dX5_copy_58 rfl (lv_at hl 0 rfl) ?_
  refine lv_aload_n hx hb dX5_copy_59 rfl (lv_at hl 1 rfl) ?_
  refine va_get (D := (dC, dI)) (ci := 4) (v := .int (S2 4 1 0)) (C := RX5) (T := TX5) (N := 6) hx hb hts hinX5 hown hK hP 28 rfl rfl 5 (by decide) hF62 (fun _ h9 => h9) rfl dX5_copy_60 ?_
  refine va_put (D := (dC, dI)) (ci := 4) (v := .int (S2 4 1 0)) (ty := .int) (C := RX5) (T := TX5) (N := 6) hx hb hts hinX5 tyX5 tyX5_ok nmX5 hown hK hP hD hS 0 rfl rfl 5 (by decide) hF62 (fun _ h9 => h9) rfl (by decide +kernel) rfl rfl (Nat.le_of_ble_eq_true rfl) dX5_copy_63 (fun H63 locs63 hP' hD' hS' => ?_)
  replace hS := hS'
  have hP' : va_P (dC, dI) vwCl (fl [(w_X5 ad (b1) cs (sU S1_55 4 (sU (S1_55 4) 1 (sU ((S1_55 4) 1) 0 (S2 4 1 0))))), (w_X5 ad (b2) cs S2)]) H63 := hP'
  have hD' : va_D A (fl [(w_X5 ad (b1) cs (sU S1_55 4 (sU (S1_55 4) 1 (sU ((S1_55 4) 1) 0 (S2 4 1 0))))), (w_X5 ad (b2) cs S2)]) := hD'
  replace hR := bn_e hR
  obtain ⟨S1_63, eS1_63, hR⟩ := hR
  replace hP : va_P (dC, dI) vwCl (fl [(w_X5 ad (b1) cs S1_63), (w_X5 ad (b2) cs S2)]) H63 := by rw [eS1_63]; exact hP'
  replace hD : va_D A (fl [(w_X5 ad (b1) cs S1_63), (w_X5 ad (b2) cs S2)]) := by rw [eS1_63]; exact hD'
  clear hP' hD' hS'
  replace hR := Option.some.inj hR
  have eu1 := hR
  replace hP : va_P (dC, dI) vwCl (fl [(w_X5 ad (b1) cs u1), (w_X5 ad (b2) cs S2)]) H63 := by rw [← eu1]; exact hP
  replace hD : va_D A (fl [(w_X5 ad (b1) cs u1), (w_X5 ad (b2) cs S2)]) := by rw [← eu1]; exact hD
  exact W.vret hx hb hr (fun t ht hW => ⟨⟨(), rfl, trivial, by rw [ht]; exact hP, va_K.moved hW.alike hK, hD⟩, hS.F ht⟩) hS.2.2 dX5_copy_66
