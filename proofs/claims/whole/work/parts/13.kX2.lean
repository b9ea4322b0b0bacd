set_option maxHeartbeats 8000000 in
set_option maxRecDepth 100000 in
theorem k_X5_sellPass (l : Launch) (dC : Nat → ClassId) (dI : Nat → Nat → Nat) (cs : Nat → ClassId) (ad : Nat → Nat) (b1 : Nat) (sz : Nat) (S1 : T3) (p1 : Int32) (r : Int32) (u1 : T3) (hR : fX5_sellPass S1 p1 = some (r, u1)) : Met l yX5_sellPass wsX5_sellPass ({ frames := 1, cells := 0, slots := 0, locals := 21 } : Room) (va_Pc [.ref (ad b1), .int p1] (pW dC dI (tyL cs) (fl [(w_X5 ad (b1) cs S1)]) sz)) (QI dC dI (tyL cs) (va_A (fl [(w_X5 ad (b1) cs S1)]) sz) (fl [(w_X5 ad (b1) cs u1)]) r) 0 0 (va_A (fl [(w_X5 ad (b1) cs S1)]) sz) := by
  refine mt_of (own := RX5) (cc := cX5_sellPass) (maxL := 3) (ret := (some .int)) (Qc := fun A => QI dC dI (tyL cs) A (fl [(w_X5 ad (b1) cs u1)]) r) rfl (by decide) rfl (Nat.le_of_ble_eq_true rfl) (fun p e s m below meth c A ls hsz hx hb hr hts hown hlocks hml hA hK hP hD hS hl => ?_)
  subst hsz
  have hl : lv_has ls 3 [(0, .ref (ad b1)), (1, .int p1)] := hl
  have hF28 := hts (.fieldLink RX5 28 "DockedBikes$Road" "riders" "LDockedBikes$Riders;") (List.mem_of_getElem? (i := 1) rfl)
  have hF39 := hts (.fieldLink RX5 39 "DockedBikes$Road" "settings" "[I") (List.mem_of_getElem? (i := 9) rfl)
  have hF62 := hts (.fieldLink RX5 62 "DockedBikes$Road" "time" "I") (List.mem_of_getElem? (i := 2) rfl)
  have hF85 := hts (.fieldLink RX5 85 "DockedBikes$Riders" "passEnd" "[I") (List.mem_of_getElem? (i := 3) rfl)
  have hF93 := hts (.fieldLink RX5 93 "DockedBikes$Riders" "passCoins" "[I") (List.mem_of_getElem? (i := 8) rfl)
  have hF96 := hts (.fieldLink RX5 96 "DockedBikes$Riders" "owed" "[I") (List.mem_of_getElem? (i := 10) rfl)
  have hinX4 : ∀ w ∈ wsX40, w ∈ wsX5_sellPass := by decide +kernel
  have hinX5 : ∀ w ∈ wsX50, w ∈ wsX5_sellPass := by decide +kernel
  refine lv_aload_n hx hb dX5_sellPass_0 rfl (lv_at hl 0 rfl) ?_
  refine va_get (D := (dC, dI)) (ci := 4) (v := .ref (ad (b1 + 13))) (C := RX5) (T := TX5) (N := 6) hx hb hts hinX5 hown hK hP 0 rfl rfl 2 (by decide) hF28 (fun _ h9 => h9) rfl dX5_sellPass_1 ?_
  refine lv_iload_n hx hb dX5_sellPass_4 rfl (lv_at hl 1 rfl) ?_
  replace hR := bd_e hR
  obtain ⟨q5, gq5, hR⟩ := hR
  replace hP : va_P (dC, dI) vwCl (fl [[((ad b1), .inr (4, [.ref (ad (b1 + 1)), .ref (ad (b1 + 6)), .ref (ad (b1 + 13)), .ref (ad (b1 + 23)), .ref (ad (b1 + 27)), .int (S1 4 1 0)]))], (w_X6 ad (b1 + 1) cs (S1 0)), (w_X1 ad (b1 + 6) cs (S1 1)), (w_X4 ad (b1 + 13) cs (S1 2)), (w_X8 ad (b1 + 23) cs (S1 3)), [((ad (b1 + 27)), .inl (cs 0, 3, .inl (S1 4 0)))]]) s.heap := hP
  replace hD : va_D A (fl [[((ad b1), .inr (4, [.ref (ad (b1 + 1)), .ref (ad (b1 + 6)), .ref (ad (b1 + 13)), .ref (ad (b1 + 23)), .ref (ad (b1 + 27)), .int (S1 4 1 0)]))], (w_X6 ad (b1 + 1) cs (S1 0)), (w_X1 ad (b1 + 6) cs (S1 1)), (w_X4 ad (b1 + 13) cs (S1 2)), (w_X8 ad (b1 + 23) cs (S1 3)), [((ad (b1 + 27)), .inl (cs 0, 3, .inl (S1 4 0)))]]) := hD
  refine cl_Vi (As := [.int p1]) (rest := []) (L := [[((ad b1), .inr (4, [.ref (ad (b1 + 1)), .ref (ad (b1 + 6)), .ref (ad (b1 + 13)), .ref (ad (b1 + 23)), .ref (ad (b1 + 27)), .int (S1 4 1 0)]))], (w_X6 ad (b1 + 1) cs (S1 0)), (w_X1 ad (b1 + 6) cs (S1 1)), (w_X4 ad (b1 + 13) cs (S1 2)), (w_X8 ad (b1 + 23) cs (S1 3)), [((ad (b1 + 27)), .inl (cs 0, 3, .inl (S1 4 0)))]]) (L' := [[((ad b1), .inr (4, [.ref (ad (b1 + 1)), .ref (ad (b1 + 6)), .ref (ad (b1 + 13)), .ref (ad (b1 + 23)), .ref (ad (b1 + 27)), .int (S1 4 1 0)]))], (w_X6 ad (b1 + 1) cs (S1 0)), (w_X1 ad (b1 + 6) cs (S1 1)), (w_X4 ad (b1 + 13) cs (S1 2)), (w_X8 ad (b1 + 23) cs (S1 3)), [((ad (b1 + 27)), .inl (cs 0, 3, .inl (S1 4 0)))]]) (Wc := [(w_X4 ad (b1 + 13) cs (S1 2))]) (Wc' := [(w_X4 ad (b1 + 13) cs (S1 2))]) (is := [3]) (js := [0, 1, 2, 4, 5]) ⟨hx, hb, hml, hown, hts⟩ (k_X4_has l dC dI cs ad (b1 + 13) s.heap.size (S1 2) p1 q5 gq5) (cwV 1 hts gX5_sellPass_X4_has rfl rfl rfl cd_X4_has ⟨Nat.le_of_ble_eq_true rfl, Nat.le_of_ble_eq_true rfl⟩) hK hP hD hS hA ⟨rfl, rfl, rfl, rfl, rfl, rfl⟩ (jn_nd (is := [3]) hD rfl rfl) 13 3 rfl rfl rfl rfl rfl hl.1 (Nat.le_of_ble_eq_true rfl) dX5_sellPass_5 (fun H5 locs5 hP' hD' hS' => ?_)
  replace hS := hS'
  replace hP : va_P (dC, dI) vwCl (fl [(w_X5 ad (b1) cs S1)]) H5 := hP'
  replace hD : va_D A (fl [(w_X5 ad (b1) cs S1)]) := hD'
  clear hP' hD' hS'
  refine lv_if_ne (tgt := 13) hx hb dX5_sellPass_8 (by decide) (fun c8 => ?_) (fun c8 => ?_)
  · replace hR := it_f hR c8
    refine lv_aload_n hx hb dX5_sellPass_13 rfl (lv_at hl 0 rfl) ?_
    refine va_get (D := (dC, dI)) (ci := 4) (v := .int (S1 4 1 0)) (C := RX5) (T := TX5) (N := 6) hx hb hts hinX5 hown hK hP 0 rfl rfl 5 (by decide) hF62 (fun _ h9 => h9) rfl dX5_sellPass_14 ?_
    refine lv_aload_n hx hb dX5_sellPass_17 rfl (lv_at hl 0 rfl) ?_
    refine va_get (D := (dC, dI)) (ci := 4) (v := .ref (ad (b1 + 13))) (C := RX5) (T := TX5) (N := 6) hx hb hts hinX5 hown hK hP 0 rfl rfl 2 (by decide) hF28 (fun _ h9 => h9) rfl dX5_sellPass_18 ?_
    refine va_get (D := (dC, dI)) (ci := 3) (v := .ref (ad (b1 + 13 + 2))) (C := RX4) (T := TX4) (N := 10) hx hb hts hinX4 hown hK hP 13 rfl rfl 2 (by decide) hF85 (fun _ h9 => h9) rfl dX5_sellPass_21 ?_
    refine lv_iload_n hx hb dX5_sellPass_24 rfl (lv_at hl 1 rfl) ?_
    replace hR := gi_e hR
    obtain ⟨i25, hR⟩ := hR
    refine va_iald hx hb hK hP 15 0 rfl rfl i25 dX5_sellPass_25 ?_
    refine va_mmax hx hb (hml.trans hl.1.symm) hown (hts (.methodLink RX5 88 Lib.Math.max.name) (List.mem_of_getElem? (i := 4) rfl)) (hts (.static Lib.Math.max.name) (List.mem_of_getElem? (i := 5) rfl)) (hts (.initialized "java/lang/Math") (List.mem_of_getElem? (i := 6) rfl)) (hts (.code Lib.Math.max.name Lib.Math.max.code 2 (some .int)) (List.mem_of_getElem? (i := 7) rfl)) (Nat.le_of_ble_eq_true rfl) (Nat.le_of_ble_eq_true rfl) (Nat.zero_le _) (Nat.zero_le _) dX5_sellPass_26 ?_
    replace hR := bn_e hR
    obtain ⟨m26, em26, hR⟩ := hR
    refine tp_e em26 ?_
    refine lv_sipush (v := 1000) hx hb dX5_sellPass_29 sp_1000 ?_
    refine lv_iadd hx hb dX5_sellPass_32 ?_
    refine lv_istore_n (lv' := [(2, .int (m26 + 1000)), (0, .ref (ad b1)), (1, .int p1)]) hx hb dX5_sellPass_33 rfl hl (Nat.le_of_ble_eq_true rfl) rfl (fun ls hl => ?_)
    refine lv_iload_n hx hb dX5_sellPass_34 rfl (lv_at hl 0 rfl) ?_
    refine lv_sipush (v := 20000) hx hb dX5_sellPass_35 sp_20000 ?_
    refine lv_icmp_le (tgt := 44) hx hb dX5_sellPass_38 (by decide) (fun c38 => ?_) (fun c38 => ?_)
    · replace hR := it_t hR c38
      refine lv_aload_n hx hb dX5_sellPass_44 rfl (lv_at hl 1 rfl) ?_
      refine va_get (D := (dC, dI)) (ci := 4) (v := .ref (ad (b1 + 13))) (C := RX5) (T := TX5) (N := 6) hx hb hts hinX5 hown hK hP 0 rfl rfl 2 (by decide) hF28 (fun _ h9 => h9) rfl dX5_sellPass_45 ?_
      refine va_get (D := (dC, dI)) (ci := 3) (v := .ref (ad (b1 + 13 + 2))) (C := RX4) (T := TX4) (N := 10) hx hb hts hinX4 hown hK hP 13 rfl rfl 2 (by decide) hF85 (fun _ h9 => h9) rfl dX5_sellPass_48 ?_
      refine lv_iload_n hx hb dX5_sellPass_51 rfl (lv_at hl 2 rfl) ?_
      refine lv_iload_n hx hb dX5_sellPass_52 rfl (lv_at hl 0 rfl) ?_
      replace hR := gi_e hR
      obtain ⟨i53, hR⟩ := hR
      refine va_iast hx hb hK hP hD hS 15 0 rfl rfl i53 dX5_sellPass_53 (fun H53 locs53 hP' hD' hS' => ?_)
      replace hS := hS'
      have hP' : va_P (dC, dI) vwCl (fl [(w_X5 ad (b1) cs (sU S1 2 (sU (S1 2) 1 (sU (S1 2 1) p1.toNatClampNeg (m26 + 1000)))))]) H53 := hP'
      have hD' : va_D A (fl [(w_X5 ad (b1) cs (sU S1 2 (sU (S1 2) 1 (sU (S1 2 1) p1.toNatClampNeg (m26 + 1000)))))]) := hD'
      replace hR := bn_e hR
      obtain ⟨S1_53, eS1_53, hR⟩ := hR
      replace hP : va_P (dC, dI) vwCl (fl [(w_X5 ad (b1) cs S1_53)]) H53 := by rw [eS1_53]; exact hP'
      replace hD : va_D A (fl [(w_X5 ad (b1) cs S1_53)]) := by rw [eS1_53]; exact hD'
      clear hP' hD' hS'
      refine lv_aload_n hx hb dX5_sellPass_54 rfl (lv_at hl 1 rfl) ?_
      refine va_get (D := (dC, dI)) (ci := 4) (v := .ref (ad (b1 + 13))) (C := RX5) (T := TX5) (N := 6) hx hb hts hinX5 hown hK hP 0 rfl rfl 2 (by decide) hF28 (fun _ h9 => h9) rfl dX5_sellPass_55 ?_
      refine va_get (D := (dC, dI)) (ci := 3) (v := .ref (ad (b1 + 13 + 3))) (C := RX4) (T := TX4) (N := 10) hx hb hts hinX4 hown hK hP 13 rfl rfl 3 (by decide) hF93 (fun _ h9 => h9) rfl dX5_sellPass_58 ?_
      refine lv_iload_n hx hb dX5_sellPass_61 rfl (lv_at hl 2 rfl) ?_
      refine lv_dup2_11 hx hb dX5_sellPass_62 rfl rfl ?_
      replace hR := gi_e hR
      obtain ⟨i63, hR⟩ := hR
      refine va_iald hx hb hK hP 16 0 rfl rfl i63 dX5_sellPass_63 ?_
      refine lv_aload_n hx hb dX5_sellPass_64 rfl (lv_at hl 1 rfl) ?_
      refine va_get (D := (dC, dI)) (ci := 4) (v := .ref (ad (b1 + 27))) (C := RX5) (T := TX5) (N := 6) hx hb hts hinX5 hown hK hP 0 rfl rfl 4 (by decide) hF39 (fun _ h9 => h9) rfl dX5_sellPass_65 ?_
      refine lv_iconst (v := 2) hx hb dX5_sellPass_68 ic_2 ?_
      refine va_iald hx hb hK hP 27 0 rfl rfl vi_2_3 dX5_sellPass_69 ?_
      refine lv_iadd hx hb dX5_sellPass_70 ?_
      replace hR := gi_e hR
      obtain ⟨i71, hR⟩ := hR
      refine va_iast hx hb hK hP hD hS 16 0 rfl rfl i71 dX5_sellPass_71 (fun H71 locs71 hP' hD' hS' => ?_)
      replace hS := hS'
      have hP' : va_P (dC, dI) vwCl (fl [(w_X5 ad (b1) cs (sU S1_53 2 (sU (S1_53 2) 2 (sU (S1_53 2 2) p1.toNatClampNeg ((S1_53 2 2 p1.toNatClampNeg) + (S1_53 4 0 (2 : Int32).toNatClampNeg))))))]) H71 := hP'
      have hD' : va_D A (fl [(w_X5 ad (b1) cs (sU S1_53 2 (sU (S1_53 2) 2 (sU (S1_53 2 2) p1.toNatClampNeg ((S1_53 2 2 p1.toNatClampNeg) + (S1_53 4 0 (2 : Int32).toNatClampNeg))))))]) := hD'
      replace hR := bn_e hR
      obtain ⟨S1_71, eS1_71, hR⟩ := hR
      replace hP : va_P (dC, dI) vwCl (fl [(w_X5 ad (b1) cs S1_71)]) H71 := by rw [eS1_71]; exact hP'
      replace hD : va_D A (fl [(w_X5 ad (b1) cs S1_71)]) := by rw [eS1_71]; exact hD'
      clear hP' hD' hS'
      refine lv_aload_n hx hb dX5_sellPass_72 rfl (lv_at hl 1 rfl) ?_
      refine va_get (D := (dC, dI)) (ci := 4) (v := .ref (ad (b1 + 13))) (C := RX5) (T := TX5) (N := 6) hx hb hts hinX5 hown hK hP 0 rfl rfl 2 (by decide) hF28 (fun _ h9 => h9) rfl dX5_sellPass_73 ?_
      refine va_get (D := (dC, dI)) (ci := 3) (v := .ref (ad (b1 + 13 + 1))) (C := RX4) (T := TX4) (N := 10) hx hb hts hinX4 hown hK hP 13 rfl rfl 1 (by decide) hF96 (fun _ h9 => h9) rfl dX5_sellPass_76 ?_
      refine lv_iload_n hx hb dX5_sellPass_79 rfl (lv_at hl 2 rfl) ?_
      refine lv_dup2_11 hx hb dX5_sellPass_80 rfl rfl ?_
      replace hR := gi_e hR
      obtain ⟨i81, hR⟩ := hR
      refine va_iald hx hb hK hP 14 0 rfl rfl i81 dX5_sellPass_81 ?_
      refine lv_aload_n hx hb dX5_sellPass_82 rfl (lv_at hl 1 rfl) ?_
      refine va_get (D := (dC, dI)) (ci := 4) (v := .ref (ad (b1 + 27))) (C := RX5) (T := TX5) (N := 6) hx hb hts hinX5 hown hK hP 0 rfl rfl 4 (by decide) hF39 (fun _ h9 => h9) rfl dX5_sellPass_83 ?_
      refine lv_iconst (v := 2) hx hb dX5_sellPass_86 ic_2 ?_
      refine va_iald hx hb hK hP 27 0 rfl rfl vi_2_3 dX5_sellPass_87 ?_
      refine lv_iadd hx hb dX5_sellPass_88 ?_
      replace hR := gi_e hR
      obtain ⟨i89, hR⟩ := hR
      refine va_iast hx hb hK hP hD hS 14 0 rfl rfl i89 dX5_sellPass_89 (fun H89 locs89 hP' hD' hS' => ?_)
      replace hS := hS'
      have hP' : va_P (dC, dI) vwCl (fl [(w_X5 ad (b1) cs (sU S1_71 2 (sU (S1_71 2) 0 (sU (S1_71 2 0) p1.toNatClampNeg ((S1_71 2 0 p1.toNatClampNeg) + (S1_71 4 0 (2 : Int32).toNatClampNeg))))))]) H89 := hP'
      have hD' : va_D A (fl [(w_X5 ad (b1) cs (sU S1_71 2 (sU (S1_71 2) 0 (sU (S1_71 2 0) p1.toNatClampNeg ((S1_71 2 0 p1.toNatClampNeg) + (S1_71 4 0 (2 : Int32).toNatClampNeg))))))]) := hD'
      replace hR := bn_e hR
      obtain ⟨S1_89, eS1_89, hR⟩ := hR
      replace hP : va_P (dC, dI) vwCl (fl [(w_X5 ad (b1) cs S1_89)]) H89 := by rw [eS1_89]; exact hP'
      replace hD : va_D A (fl [(w_X5 ad (b1) cs S1_89)]) := by rw [eS1_89]; exact hD'
      clear hP' hD' hS'
      refine lv_iload_n hx hb dX5_sellPass_90 rfl (lv_at hl 0 rfl) ?_
      replace hR := Option.some.inj hR
      obtain ⟨e9, hR⟩ := Prod.mk.inj hR
      have eu1 := hR
      replace hP : va_P (dC, dI) vwCl (fl [(w_X5 ad (b1) cs u1)]) H89 := by rw [← eu1]; exact hP
      replace hD : va_D A (fl [(w_X5 ad (b1) cs u1)]) := by rw [← eu1]; exact hD
      exact W.iret hx hb hr (fun t ht hW => ⟨⟨_, (), rfl, e9, by rw [ht]; exact hP, va_K.moved hW.alike hK, hD⟩, hS.F ht⟩) hS.2.2 dX5_sellPass_91
    · replace hR := it_f hR c38
      refine lv_bipush (v := (-3)) hx hb dX5_sellPass_41 bp_m3 ?_
      replace hR := Option.some.inj hR
      obtain ⟨e9, hR⟩ := Prod.mk.inj hR
      have eu1 := hR
      replace hP : va_P (dC, dI) vwCl (fl [(w_X5 ad (b1) cs u1)]) H5 := by rw [← eu1]; exact hP
      replace hD : va_D A (fl [(w_X5 ad (b1) cs u1)]) := by rw [← eu1]; exact hD
      exact W.iret hx hb hr (fun t ht hW => ⟨⟨_, (), rfl, e9, by rw [ht]; exact hP, va_K.moved hW.alike hK, hD⟩, hS.F ht⟩) hS.2.2 dX5_sellPass_43
  · replace hR := it_t hR c8
    refine lv_iconst (v := (-1)) hx hb dX5_sellPass_11 ic_m1 ?_
    replace hR := Option.some.inj hR
    obtain ⟨e9, hR⟩ := Prod.mk.inj hR
    have eu1 := hR
    replace hP : va_P (dC, dI) vwCl (fl [(w_X5 ad (b1) cs u1)]) H5 := by rw [← eu1]; exact hP
    replace hD : va_D A (fl [(w_X5 ad (b1) cs u1)]) := by rw [← eu1]; exact hD
    exact W.iret hx hb hr (fun t ht hW => ⟨⟨_, (), rfl, e9, by rw [ht]; exact hP, va_K.moved hW.alike hK, hD⟩, hS.F ht⟩) hS.2.2 dX5_sellPass_12
set_option maxHeartbeats 8000000 in
set_option maxRecDepth 100000 in
theorem k_X5_beginRide (l : Launch) (dC : Nat → ClassId) (dI : Nat → Nat → Nat) (cs : Nat → ClassId) (ad : Nat → Nat) (b1 : Nat) (sz : Nat) (S1 : T3) (p1 : Int32) (p2 : Int32) (r : Int32) (u1 : T3) (hR : fX5_beginRide S1 p1 p2 = some (r, u1)) : Met l yX5_beginRide wsX5_beginRide ({ frames := 3, cells := 0, slots := 0, locals := 68 } : Room) (va_Pc [.ref (ad b1), .int p1, .int p2] (pW dC dI (tyL cs) (fl [(w_X5 ad (b1) cs S1)]) sz)) (QI dC dI (tyL cs) (va_A (fl [(w_X5 ad (b1) cs S1)]) sz) (fl [(w_X5 ad (b1) cs u1)]) r) 0 0 (va_A (fl [(w_X5 ad (b1) cs S1)]) sz) := by
  refine mt_of (own := RX5) (cc := cX5_beginRide) (maxL := 5) (ret := (some .int)) (Qc := fun A => QI dC dI (tyL cs) A (fl [(w_X5 ad (b1) cs u1)]) r) rfl (by decide) rfl (Nat.le_of_ble_eq_true rfl) (fun p e s m below meth c A ls hsz hx hb hr hts hown hlocks hml hA hK hP hD hS hl => ?_)
  subst hsz
  have hl : lv_has ls 5 [(0, .ref (ad b1)), (1, .int p1), (2, .int p2)] := hl
  have hF12 := hts (.fieldLink RX5 12 "DockedBikes$Road" "stations" "LDockedBikes$Stations;") (List.mem_of_getElem? (i := 2) rfl)
  have hF21 := hts (.fieldLink RX5 21 "DockedBikes$Road" "bicycles" "LDockedBikes$Bicycles;") (List.mem_of_getElem? (i := 3) rfl)
  have hF28 := hts (.fieldLink RX5 28 "DockedBikes$Road" "riders" "LDockedBikes$Riders;") (List.mem_of_getElem? (i := 1) rfl)
  have hF39 := hts (.fieldLink RX5 39 "DockedBikes$Road" "settings" "[I") (List.mem_of_getElem? (i := 9) rfl)
  have hF62 := hts (.fieldLink RX5 62 "DockedBikes$Road" "time" "I") (List.mem_of_getElem? (i := 4) rfl)
  have hF85 := hts (.fieldLink RX5 85 "DockedBikes$Riders" "passEnd" "[I") (List.mem_of_getElem? (i := 5) rfl)
  have hF106 := hts (.fieldLink RX5 106 "DockedBikes$Riders" "bicycle" "[I") (List.mem_of_getElem? (i := 6) rfl)
  have hF109 := hts (.fieldLink RX5 109 "DockedBikes$Riders" "start" "[I") (List.mem_of_getElem? (i := 7) rfl)
  have hF112 := hts (.fieldLink RX5 112 "DockedBikes$Riders" "free" "[I") (List.mem_of_getElem? (i := 8) rfl)
  have hF115 := hts (.fieldLink RX5 115 "DockedBikes$Riders" "ground" "[I") (List.mem_of_getElem? (i := 10) rfl)
  have hF118 := hts (.fieldLink RX5 118 "DockedBikes$Riders" "told" "[I") (List.mem_of_getElem? (i := 11) rfl)
  have hF125 := hts (.fieldLink RX5 125 "DockedBikes$Stations" "began" "[I") (List.mem_of_getElem? (i := 12) rfl)
  have hinX4 : ∀ w ∈ wsX40, w ∈ wsX5_beginRide := by decide +kernel
  have hinX5 : ∀ w ∈ wsX50, w ∈ wsX5_beginRide := by decide +kernel
  have hinX6 : ∀ w ∈ wsX60, w ∈ wsX5_beginRide := by decide +kernel
  have hB146 : ∀ (S1_146h : T3) (v3_146 : Int32) (t1_146 : Int32) (t2_146 : Int32) (H : Heap) (locs : List Loc) (ls : Array Slot), fX5_beginRide_146 p1 p2 S1_146h v3_146 t1_146 t2_146 = some (r, u1) → va_P (dC, dI) vwCl (fl [(w_X5 ad (b1) cs S1_146h)]) H → va_D A (fl [(w_X5 ad (b1) cs S1_146h)]) → va_S A s.heap H locs → lv_has ls 5 [(0, .ref (ad b1)), (1, .int p1), (2, .int p2), (3, .int v3_146)] → W p l e (headSpec wsX5_beginRide ({ frames := 3, cells := 0, slots := 0, locals := 68 } : Room)).room s m ([.ref (ad b1), .int p1, .int p2] : List Value).toArray below meth c H locs 0 0 (MQ below (QI dC dI (tyL cs) A (fl [(w_X5 ad (b1) cs u1)]) r) ([.ref (ad b1), .int p1, .int p2] : List Value).toArray s 0 0 A) (F0 m 146 ls [.int t2_146, .int t1_146, .ref (ad (b1 + 13 + 8))]) := by
    intro S1_146h v3_146 t1_146 t2_146 H locs ls hR hP hD hS hl
    replace hR := gi_e hR
    obtain ⟨i146, hR⟩ := hR
    refine va_iast hx hb hK hP hD hS 21 0 rfl rfl i146 dX5_beginRide_146 (fun H146 locs146 hP' hD' hS' => ?_)
    replace hS := hS'
    have hP' : va_P (dC, dI) vwCl (fl [(w_X5 ad (b1) cs (sU S1_146h 2 (sU (S1_146h 2) 7 (sU (S1_146h 2 7) t1_146.toNatClampNeg t2_146))))]) H146 := hP'
    have hD' : va_D A (fl [(w_X5 ad (b1) cs (sU S1_146h 2 (sU (S1_146h 2) 7 (sU (S1_146h 2 7) t1_146.toNatClampNeg t2_146))))]) := hD'
    replace hR := bn_e hR
    obtain ⟨S1_146, eS1_146, hR⟩ := hR
    replace hP : va_P (dC, dI) vwCl (fl [(w_X5 ad (b1) cs S1_146)]) H146 := by rw [eS1_146]; exact hP'
    replace hD : va_D A (fl [(w_X5 ad (b1) cs S1_146)]) := by rw [eS1_146]; exact hD'
    clear hP' hD' hS'
    refine lv_aload_n hx hb dX5_beginRide_147 rfl (lv_at hl 0 rfl) ?_
    refine va_get (D := (dC, dI)) (ci := 4) (v := .ref (ad (b1 + 13))) (C := RX5) (T := TX5) (N := 6) hx hb hts hinX5 hown hK hP 0 rfl rfl 2 (by decide) hF28 (fun _ h9 => h9) rfl dX5_beginRide_148 ?_
    refine va_get (D := (dC, dI)) (ci := 3) (v := .ref (ad (b1 + 13 + 9))) (C := RX4) (T := TX4) (N := 10) hx hb hts hinX4 hown hK hP 13 rfl rfl 9 (by decide) hF118 (fun _ h9 => h9) rfl dX5_beginRide_151 ?_
    refine lv_iload_n hx hb dX5_beginRide_154 rfl (lv_at hl 1 rfl) ?_
    refine lv_iconst (v := 0) hx hb dX5_beginRide_155 ic_0 ?_
    replace hR := gi_e hR
    obtain ⟨i156, hR⟩ := hR
    refine va_iast hx hb hK hP hD hS 22 0 rfl rfl i156 dX5_beginRide_156 (fun H156 locs156 hP' hD' hS' => ?_)
    replace hS := hS'
    have hP' : va_P (dC, dI) vwCl (fl [(w_X5 ad (b1) cs (sU S1_146 2 (sU (S1_146 2) 8 (sU (S1_146 2 8) p1.toNatClampNeg (0 : Int32)))))]) H156 := hP'
    have hD' : va_D A (fl [(w_X5 ad (b1) cs (sU S1_146 2 (sU (S1_146 2) 8 (sU (S1_146 2 8) p1.toNatClampNeg (0 : Int32)))))]) := hD'
    replace hR := bn_e hR
    obtain ⟨S1_156, eS1_156, hR⟩ := hR
    replace hP : va_P (dC, dI) vwCl (fl [(w_X5 ad (b1) cs S1_156)]) H156 := by rw [eS1_156]; exact hP'
    replace hD : va_D A (fl [(w_X5 ad (b1) cs S1_156)]) := by rw [eS1_156]; exact hD'
    clear hP' hD' hS'
    refine lv_aload_n hx hb dX5_beginRide_157 rfl (lv_at hl 0 rfl) ?_
    refine va_get (D := (dC, dI)) (ci := 4) (v := .ref (ad (b1 + 6))) (C := RX5) (T := TX5) (N := 6) hx hb hts hinX5 hown hK hP 0 rfl rfl 1 (by decide) hF21 (fun _ h9 => h9) rfl dX5_beginRide_158 ?_
    refine lv_iload_n hx hb dX5_beginRide_161 rfl (lv_at hl 3 rfl) ?_
    refine lv_iconst (v := 1) hx hb dX5_beginRide_162 ic_1 ?_
    refine lv_iload_n hx hb dX5_beginRide_163 rfl (lv_at hl 1 rfl) ?_
    replace hR := bd_e hR
    obtain ⟨q164, gq164, hR⟩ := hR
    replace hP : va_P (dC, dI) vwCl (fl [[((ad b1), .inr (4, [.ref (ad (b1 + 1)), .ref (ad (b1 + 6)), .ref (ad (b1 + 13)), .ref (ad (b1 + 23)), .ref (ad (b1 + 27)), .int (S1_156 4 1 0)]))], (w_X6 ad (b1 + 1) cs (S1_156 0)), (w_X1 ad (b1 + 6) cs (S1_156 1)), (w_X4 ad (b1 + 13) cs (S1_156 2)), (w_X8 ad (b1 + 23) cs (S1_156 3)), [((ad (b1 + 27)), .inl (cs 0, 3, .inl (S1_156 4 0)))]]) H156 := hP
    replace hD : va_D A (fl [[((ad b1), .inr (4, [.ref (ad (b1 + 1)), .ref (ad (b1 + 6)), .ref (ad (b1 + 13)), .ref (ad (b1 + 23)), .ref (ad (b1 + 27)), .int (S1_156 4 1 0)]))], (w_X6 ad (b1 + 1) cs (S1_156 0)), (w_X1 ad (b1 + 6) cs (S1_156 1)), (w_X4 ad (b1 + 13) cs (S1_156 2)), (w_X8 ad (b1 + 23) cs (S1_156 3)), [((ad (b1 + 27)), .inl (cs 0, 3, .inl (S1_156 4 0)))]]) := hD
    refine cl_Vv (As := [.int v3_146, .int (1 : Int32), .int p1]) (rest := []) (L := [[((ad b1), .inr (4, [.ref (ad (b1 + 1)), .ref (ad (b1 + 6)), .ref (ad (b1 + 13)), .ref (ad (b1 + 23)), .ref (ad (b1 + 27)), .int (S1_156 4 1 0)]))], (w_X6 ad (b1 + 1) cs (S1_156 0)), (w_X1 ad (b1 + 6) cs (S1_156 1)), (w_X4 ad (b1 + 13) cs (S1_156 2)), (w_X8 ad (b1 + 23) cs (S1_156 3)), [((ad (b1 + 27)), .inl (cs 0, 3, .inl (S1_156 4 0)))]]) (L' := [[((ad b1), .inr (4, [.ref (ad (b1 + 1)), .ref (ad (b1 + 6)), .ref (ad (b1 + 13)), .ref (ad (b1 + 23)), .ref (ad (b1 + 27)), .int ((sU S1_156 1 q164) 4 1 0)]))], (w_X6 ad (b1 + 1) cs ((sU S1_156 1 q164) 0)), (w_X1 ad (b1 + 6) cs ((sU S1_156 1 q164) 1)), (w_X4 ad (b1 + 13) cs ((sU S1_156 1 q164) 2)), (w_X8 ad (b1 + 23) cs ((sU S1_156 1 q164) 3)), [((ad (b1 + 27)), .inl (cs 0, 3, .inl ((sU S1_156 1 q164) 4 0)))]]) (Wc := [(w_X1 ad (b1 + 6) cs (S1_156 1))]) (Wc' := [(w_X1 ad (b1 + 6) cs q164)]) (is := [2]) (js := [0, 1, 3, 4, 5]) ⟨hx, hb, hml, hown, hts⟩ (k_X1_bring l dC dI cs ad (b1 + 6) H156.size (S1_156 1) v3_146 (1 : Int32) p1 q164 gq164) (cwV 3 hts gX5_beginRide_X1_bring rfl rfl rfl cd_X1_bring ⟨Nat.le_of_ble_eq_true rfl, Nat.le_of_ble_eq_true rfl⟩) hK hP hD hS hA ⟨rfl, rfl, rfl, rfl, rfl, rfl⟩ (jn_nd (is := [2]) hD rfl rfl) 6 0 rfl rfl rfl rfl rfl hl.1 (Nat.le_of_ble_eq_true rfl) dX5_beginRide_164 (fun H164 locs164 hP' hD' hS' => ?_)
    replace hS := hS'
    have hP' : va_P (dC, dI) vwCl (fl [(w_X5 ad (b1) cs (sU S1_156 1 q164))]) H164 := hP'
    have hD' : va_D A (fl [(w_X5 ad (b1) cs (sU S1_156 1 q164))]) := hD'
    replace hR := bn_e hR
    obtain ⟨S1_164, eS1_164, hR⟩ := hR
    replace hP : va_P (dC, dI) vwCl (fl [(w_X5 ad (b1) cs S1_164)]) H164 := by rw [eS1_164]; exact hP'
    replace hD : va_D A (fl [(w_X5 ad (b1) cs S1_164)]) := by rw [eS1_164]; exact hD'
    clear hP' hD' hS'
    refine lv_aload_n hx hb dX5_beginRide_167 rfl (lv_at hl 0 rfl) ?_
    refine va_get (D := (dC, dI)) (ci := 4) (v := .ref (ad (b1 + 1))) (C := RX5) (T := TX5) (N := 6) hx hb hts hinX5 hown hK hP 0 rfl rfl 0 (by decide) hF12 (fun _ h9 => h9) rfl dX5_beginRide_168 ?_
    refine va_get (D := (dC, dI)) (ci := 5) (v := .ref (ad (b1 + 1 + 3))) (C := RX6) (T := TX6) (N := 5) hx hb hts hinX6 hown hK hP 1 rfl rfl 3 (by decide) hF125 (fun _ h9 => h9) rfl dX5_beginRide_171 ?_
    refine lv_iload_n hx hb dX5_beginRide_174 rfl (lv_at hl 2 rfl) ?_
    refine lv_dup2_11 hx hb dX5_beginRide_175 rfl rfl ?_
    replace hR := gi_e hR
    obtain ⟨i176, hR⟩ := hR
    refine va_iald hx hb hK hP 4 0 rfl rfl i176 dX5_beginRide_176 ?_
    refine lv_iconst (v := 1) hx hb dX5_beginRide_177 ic_1 ?_
    refine lv_iadd hx hb dX5_beginRide_178 ?_
    replace hR := gi_e hR
    obtain ⟨i179, hR⟩ := hR
    refine va_iast hx hb hK hP hD hS 4 0 rfl rfl i179 dX5_beginRide_179 (fun H179 locs179 hP' hD' hS' => ?_)
    replace hS := hS'
    have hP' : va_P (dC, dI) vwCl (fl [(w_X5 ad (b1) cs (sU S1_164 0 (sU (S1_164 0) 2 (sU (S1_164 0 2) p2.toNatClampNeg ((S1_164 0 2 p2.toNatClampNeg) + 1)))))]) H179 := hP'
    have hD' : va_D A (fl [(w_X5 ad (b1) cs (sU S1_164 0 (sU (S1_164 0) 2 (sU (S1_164 0 2) p2.toNatClampNeg ((S1_164 0 2 p2.toNatClampNeg) + 1)))))]) := hD'
    replace hR := bn_e hR
    obtain ⟨S1_179, eS1_179, hR⟩ := hR
    replace hP : va_P (dC, dI) vwCl (fl [(w_X5 ad (b1) cs S1_179)]) H179 := by rw [eS1_179]; exact hP'
    replace hD : va_D A (fl [(w_X5 ad (b1) cs S1_179)]) := by rw [eS1_179]; exact hD'
    clear hP' hD' hS'
    refine lv_iload_n hx hb dX5_beginRide_180 rfl (lv_at hl 3 rfl) ?_
    replace hR := Option.some.inj hR
    obtain ⟨e9, hR⟩ := Prod.mk.inj hR
    have eu1 := hR
    replace hP : va_P (dC, dI) vwCl (fl [(w_X5 ad (b1) cs u1)]) H179 := by rw [← eu1]; exact hP
    replace hD : va_D A (fl [(w_X5 ad (b1) cs u1)]) := by rw [← eu1]; exact hD
    exact W.iret hx hb hr (fun t ht hW => ⟨⟨_, (), rfl, e9, by rw [ht]; exact hP, va_K.moved hW.alike hK, hD⟩, hS.F ht⟩) hS.2.2 dX5_beginRide_181
  have hB127 : ∀ (S1_127h : T3) (v3_127 : Int32) (v4_127 : Int32) (t1_127 : Int32) (t2_127 : Int32) (H : Heap) (locs : List Loc) (ls : Array Slot), fX5_beginRide_127 p1 p2 S1_127h v3_127 v4_127 t1_127 t2_127 = some (r, u1) → va_P (dC, dI) vwCl (fl [(w_X5 ad (b1) cs S1_127h)]) H → va_D A (fl [(w_X5 ad (b1) cs S1_127h)]) → va_S A s.heap H locs → lv_has ls 5 [(0, .ref (ad b1)), (1, .int p1), (2, .int p2), (3, .int v3_127), (4, .int v4_127)] → W p l e (headSpec wsX5_beginRide ({ frames := 3, cells := 0, slots := 0, locals := 68 } : Room)).room s m ([.ref (ad b1), .int p1, .int p2] : List Value).toArray below meth c H locs 0 0 (MQ below (QI dC dI (tyL cs) A (fl [(w_X5 ad (b1) cs u1)]) r) ([.ref (ad b1), .int p1, .int p2] : List Value).toArray s 0 0 A) (F0 m 127 ls [.int t2_127, .int t1_127, .ref (ad (b1 + 13 + 7))]) := by
    intro S1_127h v3_127 v4_127 t1_127 t2_127 H locs ls hR hP hD hS hl
    replace hR := gi_e hR
    obtain ⟨i127, hR⟩ := hR
    refine va_iast hx hb hK hP hD hS 20 0 rfl rfl i127 dX5_beginRide_127 (fun H127 locs127 hP' hD' hS' => ?_)
    replace hS := hS'
    have hP' : va_P (dC, dI) vwCl (fl [(w_X5 ad (b1) cs (sU S1_127h 2 (sU (S1_127h 2) 6 (sU (S1_127h 2 6) t1_127.toNatClampNeg t2_127))))]) H127 := hP'
    have hD' : va_D A (fl [(w_X5 ad (b1) cs (sU S1_127h 2 (sU (S1_127h 2) 6 (sU (S1_127h 2 6) t1_127.toNatClampNeg t2_127))))]) := hD'
    replace hR := bn_e hR
    obtain ⟨S1_127, eS1_127, hR⟩ := hR
    replace hP : va_P (dC, dI) vwCl (fl [(w_X5 ad (b1) cs S1_127)]) H127 := by rw [eS1_127]; exact hP'
    replace hD : va_D A (fl [(w_X5 ad (b1) cs S1_127)]) := by rw [eS1_127]; exact hD'
    clear hP' hD' hS'
    refine lv_aload_n hx hb dX5_beginRide_128 rfl (lv_at hl 0 rfl) ?_
    refine va_get (D := (dC, dI)) (ci := 4) (v := .ref (ad (b1 + 13))) (C := RX5) (T := TX5) (N := 6) hx hb hts hinX5 hown hK hP 0 rfl rfl 2 (by decide) hF28 (fun _ h9 => h9) rfl dX5_beginRide_129 ?_
    refine va_get (D := (dC, dI)) (ci := 3) (v := .ref (ad (b1 + 13 + 8))) (C := RX4) (T := TX4) (N := 10) hx hb hts hinX4 hown hK hP 13 rfl rfl 8 (by decide) hF115 (fun _ h9 => h9) rfl dX5_beginRide_132 ?_
    refine lv_iload_n hx hb dX5_beginRide_135 rfl (lv_at hl 1 rfl) ?_
    refine lv_iload hx hb dX5_beginRide_136 (lv_at hl 4 rfl) ?_
    refine lv_if_eq (tgt := 145) hx hb dX5_beginRide_138 (by decide) (fun c138 => ?_) (fun c138 => ?_)
    · replace hR := it_t hR c138
      refine lv_iconst (v := 1) hx hb dX5_beginRide_145 ic_1 ?_
      exact hB146 S1_127 v3_127 p1 (1 : Int32) H127 _ ls hR hP hD hS (lv_sub hl [0, 1, 2, 3] rfl)
    · replace hR := it_f hR c138
      refine lv_iconst (v := 0) hx hb dX5_beginRide_141 ic_0 ?_
      refine lv_goto (tgt := 146) hx hb dX5_beginRide_142 (by decide) ?_
      exact hB146 S1_127 v3_127 p1 (0 : Int32) H127 _ ls hR hP hD hS (lv_sub hl [0, 1, 2, 3] rfl)
  have hB79 : ∀ (S1_79h : T3) (v3_79 : Int32) (t0_79 : Int32) (H : Heap) (locs : List Loc) (ls : Array Slot), fX5_beginRide_79 p1 p2 S1_79h v3_79 t0_79 = some (r, u1) → va_P (dC, dI) vwCl (fl [(w_X5 ad (b1) cs S1_79h)]) H → va_D A (fl [(w_X5 ad (b1) cs S1_79h)]) → va_S A s.heap H locs → lv_has ls 5 [(0, .ref (ad b1)), (1, .int p1), (2, .int p2), (3, .int v3_79)] → W p l e (headSpec wsX5_beginRide ({ frames := 3, cells := 0, slots := 0, locals := 68 } : Room)).room s m ([.ref (ad b1), .int p1, .int p2] : List Value).toArray below meth c H locs 0 0 (MQ below (QI dC dI (tyL cs) A (fl [(w_X5 ad (b1) cs u1)]) r) ([.ref (ad b1), .int p1, .int p2] : List Value).toArray s 0 0 A) (F0 m 79 ls [.int t0_79]) := by
    intro S1_79h v3_79 t0_79 H locs ls hR hP hD hS hl
    refine lv_istore (lv' := [(4, .int t0_79), (0, .ref (ad b1)), (1, .int p1), (2, .int p2), (3, .int v3_79)]) hx hb dX5_beginRide_79 hl (Nat.le_of_ble_eq_true rfl) rfl (fun ls hl => ?_)
    refine lv_aload_n hx hb dX5_beginRide_81 rfl (lv_at hl 1 rfl) ?_
    refine va_get (D := (dC, dI)) (ci := 4) (v := .ref (ad (b1 + 13))) (C := RX5) (T := TX5) (N := 6) hx hb hts hinX5 hown hK hP 0 rfl rfl 2 (by decide) hF28 (fun _ h9 => h9) rfl dX5_beginRide_82 ?_
    refine va_get (D := (dC, dI)) (ci := 3) (v := .ref (ad (b1 + 13 + 5))) (C := RX4) (T := TX4) (N := 10) hx hb hts hinX4 hown hK hP 13 rfl rfl 5 (by decide) hF106 (fun _ h9 => h9) rfl dX5_beginRide_85 ?_
    refine lv_iload_n hx hb dX5_beginRide_88 rfl (lv_at hl 2 rfl) ?_
    refine lv_iload_n hx hb dX5_beginRide_89 rfl (lv_at hl 4 rfl) ?_
    replace hR := gi_e hR
    obtain ⟨i90, hR⟩ := hR
    refine va_iast hx hb hK hP hD hS 18 0 rfl rfl i90 dX5_beginRide_90 (fun H90 locs90 hP' hD' hS' => ?_)
    replace hS := hS'
    have hP' : va_P (dC, dI) vwCl (fl [(w_X5 ad (b1) cs (sU S1_79h 2 (sU (S1_79h 2) 4 (sU (S1_79h 2 4) p1.toNatClampNeg v3_79))))]) H90 := hP'
    have hD' : va_D A (fl [(w_X5 ad (b1) cs (sU S1_79h 2 (sU (S1_79h 2) 4 (sU (S1_79h 2 4) p1.toNatClampNeg v3_79))))]) := hD'
    replace hR := bn_e hR
    obtain ⟨S1_90, eS1_90, hR⟩ := hR
    replace hP : va_P (dC, dI) vwCl (fl [(w_X5 ad (b1) cs S1_90)]) H90 := by rw [eS1_90]; exact hP'
    replace hD : va_D A (fl [(w_X5 ad (b1) cs S1_90)]) := by rw [eS1_90]; exact hD'
    clear hP' hD' hS'
    refine lv_aload_n hx hb dX5_beginRide_91 rfl (lv_at hl 1 rfl) ?_
    refine va_get (D := (dC, dI)) (ci := 4) (v := .ref (ad (b1 + 13))) (C := RX5) (T := TX5) (N := 6) hx hb hts hinX5 hown hK hP 0 rfl rfl 2 (by decide) hF28 (fun _ h9 => h9) rfl dX5_beginRide_92 ?_
    refine va_get (D := (dC, dI)) (ci := 3) (v := .ref (ad (b1 + 13 + 6))) (C := RX4) (T := TX4) (N := 10) hx hb hts hinX4 hown hK hP 13 rfl rfl 6 (by decide) hF109 (fun _ h9 => h9) rfl dX5_beginRide_95 ?_
    refine lv_iload_n hx hb dX5_beginRide_98 rfl (lv_at hl 2 rfl) ?_
    refine lv_aload_n hx hb dX5_beginRide_99 rfl (lv_at hl 1 rfl) ?_
    refine va_get (D := (dC, dI)) (ci := 4) (v := .int (S1_90 4 1 0)) (C := RX5) (T := TX5) (N := 6) hx hb hts hinX5 hown hK hP 0 rfl rfl 5 (by decide) hF62 (fun _ h9 => h9) rfl dX5_beginRide_100 ?_
    replace hR := gi_e hR
    obtain ⟨i103, hR⟩ := hR
    refine va_iast hx hb hK hP hD hS 19 0 rfl rfl i103 dX5_beginRide_103 (fun H103 locs103 hP' hD' hS' => ?_)
    replace hS := hS'
    have hP' : va_P (dC, dI) vwCl (fl [(w_X5 ad (b1) cs (sU S1_90 2 (sU (S1_90 2) 5 (sU (S1_90 2 5) p1.toNatClampNeg (S1_90 4 1 0)))))]) H103 := hP'
    have hD' : va_D A (fl [(w_X5 ad (b1) cs (sU S1_90 2 (sU (S1_90 2) 5 (sU (S1_90 2 5) p1.toNatClampNeg (S1_90 4 1 0)))))]) := hD'
    replace hR := bn_e hR
    obtain ⟨S1_103, eS1_103, hR⟩ := hR
    replace hP : va_P (dC, dI) vwCl (fl [(w_X5 ad (b1) cs S1_103)]) H103 := by rw [eS1_103]; exact hP'
    replace hD : va_D A (fl [(w_X5 ad (b1) cs S1_103)]) := by rw [eS1_103]; exact hD'
    clear hP' hD' hS'
    refine lv_aload_n hx hb dX5_beginRide_104 rfl (lv_at hl 1 rfl) ?_
    refine va_get (D := (dC, dI)) (ci := 4) (v := .ref (ad (b1 + 13))) (C := RX5) (T := TX5) (N := 6) hx hb hts hinX5 hown hK hP 0 rfl rfl 2 (by decide) hF28 (fun _ h9 => h9) rfl dX5_beginRide_105 ?_
    refine va_get (D := (dC, dI)) (ci := 3) (v := .ref (ad (b1 + 13 + 7))) (C := RX4) (T := TX4) (N := 10) hx hb hts hinX4 hown hK hP 13 rfl rfl 7 (by decide) hF112 (fun _ h9 => h9) rfl dX5_beginRide_108 ?_
    refine lv_iload_n hx hb dX5_beginRide_111 rfl (lv_at hl 2 rfl) ?_
    refine lv_iload hx hb dX5_beginRide_112 (lv_at hl 0 rfl) ?_
    refine lv_if_eq (tgt := 126) hx hb dX5_beginRide_114 (by decide) (fun c114 => ?_) (fun c114 => ?_)
    · replace hR := it_t hR c114
      refine lv_iconst (v := 0) hx hb dX5_beginRide_126 ic_0 ?_
      exact hB127 S1_103 v3_79 t0_79 p1 (0 : Int32) H103 _ ls hR hP hD hS (lv_sub hl [1, 2, 3, 4, 0] rfl)
    · replace hR := it_f hR c114
      refine lv_aload_n hx hb dX5_beginRide_117 rfl (lv_at hl 1 rfl) ?_
      refine va_get (D := (dC, dI)) (ci := 4) (v := .ref (ad (b1 + 27))) (C := RX5) (T := TX5) (N := 6) hx hb hts hinX5 hown hK hP 0 rfl rfl 4 (by decide) hF39 (fun _ h9 => h9) rfl dX5_beginRide_118 ?_
      refine lv_iconst (v := 0) hx hb dX5_beginRide_121 ic_0 ?_
      refine va_iald hx hb hK hP 27 0 rfl rfl vi_0_3 dX5_beginRide_122 ?_
      refine lv_goto (tgt := 127) hx hb dX5_beginRide_123 (by decide) ?_
      exact hB127 S1_103 v3_79 t0_79 p1 (S1_103 4 0 (0 : Int32).toNatClampNeg) H103 _ ls hR hP hD hS (lv_sub hl [1, 2, 3, 4, 0] rfl)
  refine lv_aload_n hx hb dX5_beginRide_0 rfl (lv_at hl 0 rfl) ?_
  refine va_get (D := (dC, dI)) (ci := 4) (v := .ref (ad (b1 + 13))) (C := RX5) (T := TX5) (N := 6) hx hb hts hinX5 hown hK hP 0 rfl rfl 2 (by decide) hF28 (fun _ h9 => h9) rfl dX5_beginRide_1 ?_
  refine lv_iload_n hx hb dX5_beginRide_4 rfl (lv_at hl 1 rfl) ?_
  replace hR := bd_e hR
  obtain ⟨q5, gq5, hR⟩ := hR
  replace hP : va_P (dC, dI) vwCl (fl [[((ad b1), .inr (4, [.ref (ad (b1 + 1)), .ref (ad (b1 + 6)), .ref (ad (b1 + 13)), .ref (ad (b1 + 23)), .ref (ad (b1 + 27)), .int (S1 4 1 0)]))], (w_X6 ad (b1 + 1) cs (S1 0)), (w_X1 ad (b1 + 6) cs (S1 1)), (w_X4 ad (b1 + 13) cs (S1 2)), (w_X8 ad (b1 + 23) cs (S1 3)), [((ad (b1 + 27)), .inl (cs 0, 3, .inl (S1 4 0)))]]) s.heap := hP
  replace hD : va_D A (fl [[((ad b1), .inr (4, [.ref (ad (b1 + 1)), .ref (ad (b1 + 6)), .ref (ad (b1 + 13)), .ref (ad (b1 + 23)), .ref (ad (b1 + 27)), .int (S1 4 1 0)]))], (w_X6 ad (b1 + 1) cs (S1 0)), (w_X1 ad (b1 + 6) cs (S1 1)), (w_X4 ad (b1 + 13) cs (S1 2)), (w_X8 ad (b1 + 23) cs (S1 3)), [((ad (b1 + 27)), .inl (cs 0, 3, .inl (S1 4 0)))]]) := hD
  refine cl_Vi (As := [.int p1]) (rest := []) (L := [[((ad b1), .inr (4, [.ref (ad (b1 + 1)), .ref (ad (b1 + 6)), .ref (ad (b1 + 13)), .ref (ad (b1 + 23)), .ref (ad (b1 + 27)), .int (S1 4 1 0)]))], (w_X6 ad (b1 + 1) cs (S1 0)), (w_X1 ad (b1 + 6) cs (S1 1)), (w_X4 ad (b1 + 13) cs (S1 2)), (w_X8 ad (b1 + 23) cs (S1 3)), [((ad (b1 + 27)), .inl (cs 0, 3, .inl (S1 4 0)))]]) (L' := [[((ad b1), .inr (4, [.ref (ad (b1 + 1)), .ref (ad (b1 + 6)), .ref (ad (b1 + 13)), .ref (ad (b1 + 23)), .ref (ad (b1 + 27)), .int (S1 4 1 0)]))], (w_X6 ad (b1 + 1) cs (S1 0)), (w_X1 ad (b1 + 6) cs (S1 1)), (w_X4 ad (b1 + 13) cs (S1 2)), (w_X8 ad (b1 + 23) cs (S1 3)), [((ad (b1 + 27)), .inl (cs 0, 3, .inl (S1 4 0)))]]) (Wc := [(w_X4 ad (b1 + 13) cs (S1 2))]) (Wc' := [(w_X4 ad (b1 + 13) cs (S1 2))]) (is := [3]) (js := [0, 1, 2, 4, 5]) ⟨hx, hb, hml, hown, hts⟩ (k_X4_has l dC dI cs ad (b1 + 13) s.heap.size (S1 2) p1 q5 gq5) (cwV 1 hts gX5_beginRide_X4_has rfl rfl rfl cd_X4_has ⟨Nat.le_of_ble_eq_true rfl, Nat.le_of_ble_eq_true rfl⟩) hK hP hD hS hA ⟨rfl, rfl, rfl, rfl, rfl, rfl⟩ (jn_nd (is := [3]) hD rfl rfl) 13 3 rfl rfl rfl rfl rfl hl.1 (Nat.le_of_ble_eq_true rfl) dX5_beginRide_5 (fun H5 locs5 hP' hD' hS' => ?_)
  replace hS := hS'
  replace hP : va_P (dC, dI) vwCl (fl [(w_X5 ad (b1) cs S1)]) H5 := hP'
  replace hD : va_D A (fl [(w_X5 ad (b1) cs S1)]) := hD'
  clear hP' hD' hS'
  refine lv_if_eq (tgt := 22) hx hb dX5_beginRide_8 (by decide) (fun c8 => ?_) (fun c8 => ?_)
  · replace hR := it_t hR c8
    refine lv_iconst (v := (-1)) hx hb dX5_beginRide_22 ic_m1 ?_
    replace hR := Option.some.inj hR
    obtain ⟨e9, hR⟩ := Prod.mk.inj hR
    have eu1 := hR
    replace hP : va_P (dC, dI) vwCl (fl [(w_X5 ad (b1) cs u1)]) H5 := by rw [← eu1]; exact hP
    replace hD : va_D A (fl [(w_X5 ad (b1) cs u1)]) := by rw [← eu1]; exact hD
    exact W.iret hx hb hr (fun t ht hW => ⟨⟨_, (), rfl, e9, by rw [ht]; exact hP, va_K.moved hW.alike hK, hD⟩, hS.F ht⟩) hS.2.2 dX5_beginRide_23
  · replace hR := it_f hR c8
    refine lv_aload_n hx hb dX5_beginRide_11 rfl (lv_at hl 0 rfl) ?_
    refine va_get (D := (dC, dI)) (ci := 4) (v := .ref (ad (b1 + 1))) (C := RX5) (T := TX5) (N := 6) hx hb hts hinX5 hown hK hP 0 rfl rfl 0 (by decide) hF12 (fun _ h9 => h9) rfl dX5_beginRide_12 ?_
    refine lv_iload_n hx hb dX5_beginRide_15 rfl (lv_at hl 2 rfl) ?_
    replace hR := bd_e hR
    obtain ⟨q16, gq16, hR⟩ := hR
    replace hP : va_P (dC, dI) vwCl (fl [[((ad b1), .inr (4, [.ref (ad (b1 + 1)), .ref (ad (b1 + 6)), .ref (ad (b1 + 13)), .ref (ad (b1 + 23)), .ref (ad (b1 + 27)), .int (S1 4 1 0)]))], (w_X6 ad (b1 + 1) cs (S1 0)), (w_X1 ad (b1 + 6) cs (S1 1)), (w_X4 ad (b1 + 13) cs (S1 2)), (w_X8 ad (b1 + 23) cs (S1 3)), [((ad (b1 + 27)), .inl (cs 0, 3, .inl (S1 4 0)))]]) H5 := hP
    replace hD : va_D A (fl [[((ad b1), .inr (4, [.ref (ad (b1 + 1)), .ref (ad (b1 + 6)), .ref (ad (b1 + 13)), .ref (ad (b1 + 23)), .ref (ad (b1 + 27)), .int (S1 4 1 0)]))], (w_X6 ad (b1 + 1) cs (S1 0)), (w_X1 ad (b1 + 6) cs (S1 1)), (w_X4 ad (b1 + 13) cs (S1 2)), (w_X8 ad (b1 + 23) cs (S1 3)), [((ad (b1 + 27)), .inl (cs 0, 3, .inl (S1 4 0)))]]) := hD
    refine cl_Vi (As := [.int p2]) (rest := []) (L := [[((ad b1), .inr (4, [.ref (ad (b1 + 1)), .ref (ad (b1 + 6)), .ref (ad (b1 + 13)), .ref (ad (b1 + 23)), .ref (ad (b1 + 27)), .int (S1 4 1 0)]))], (w_X6 ad (b1 + 1) cs (S1 0)), (w_X1 ad (b1 + 6) cs (S1 1)), (w_X4 ad (b1 + 13) cs (S1 2)), (w_X8 ad (b1 + 23) cs (S1 3)), [((ad (b1 + 27)), .inl (cs 0, 3, .inl (S1 4 0)))]]) (L' := [[((ad b1), .inr (4, [.ref (ad (b1 + 1)), .ref (ad (b1 + 6)), .ref (ad (b1 + 13)), .ref (ad (b1 + 23)), .ref (ad (b1 + 27)), .int (S1 4 1 0)]))], (w_X6 ad (b1 + 1) cs (S1 0)), (w_X1 ad (b1 + 6) cs (S1 1)), (w_X4 ad (b1 + 13) cs (S1 2)), (w_X8 ad (b1 + 23) cs (S1 3)), [((ad (b1 + 27)), .inl (cs 0, 3, .inl (S1 4 0)))]]) (Wc := [(w_X6 ad (b1 + 1) cs (S1 0))]) (Wc' := [(w_X6 ad (b1 + 1) cs (S1 0))]) (is := [1]) (js := [0, 2, 3, 4, 5]) ⟨hx, hb, hml, hown, hts⟩ (k_X6_has l dC dI cs ad (b1 + 1) H5.size (S1 0) p2 q16 gq16) (cwV 1 hts gX5_beginRide_X6_has rfl rfl rfl cd_X6_has ⟨Nat.le_of_ble_eq_true rfl, Nat.le_of_ble_eq_true rfl⟩) hK hP hD hS hA ⟨rfl, rfl, rfl, rfl, rfl, rfl⟩ (jn_nd (is := [1]) hD rfl rfl) 1 5 rfl rfl rfl rfl rfl hl.1 (Nat.le_of_ble_eq_true rfl) dX5_beginRide_16 (fun H16 locs16 hP' hD' hS' => ?_)
    replace hS := hS'
    replace hP : va_P (dC, dI) vwCl (fl [(w_X5 ad (b1) cs S1)]) H16 := hP'
    replace hD : va_D A (fl [(w_X5 ad (b1) cs S1)]) := hD'
    clear hP' hD' hS'
    refine lv_if_ne (tgt := 24) hx hb dX5_beginRide_19 (by decide) (fun c19 => ?_) (fun c19 => ?_)
    · replace hR := it_f hR c19
      refine lv_aload_n hx hb dX5_beginRide_24 rfl (lv_at hl 0 rfl) ?_
      refine va_get (D := (dC, dI)) (ci := 4) (v := .ref (ad (b1 + 6))) (C := RX5) (T := TX5) (N := 6) hx hb hts hinX5 hown hK hP 0 rfl rfl 1 (by decide) hF21 (fun _ h9 => h9) rfl dX5_beginRide_25 ?_
      refine lv_iload_n hx hb dX5_beginRide_28 rfl (lv_at hl 2 rfl) ?_
      replace hR := bd_e hR
      obtain ⟨q29, gq29, hR⟩ := hR
      replace hP : va_P (dC, dI) vwCl (fl [[((ad b1), .inr (4, [.ref (ad (b1 + 1)), .ref (ad (b1 + 6)), .ref (ad (b1 + 13)), .ref (ad (b1 + 23)), .ref (ad (b1 + 27)), .int (S1 4 1 0)]))], (w_X6 ad (b1 + 1) cs (S1 0)), (w_X1 ad (b1 + 6) cs (S1 1)), (w_X4 ad (b1 + 13) cs (S1 2)), (w_X8 ad (b1 + 23) cs (S1 3)), [((ad (b1 + 27)), .inl (cs 0, 3, .inl (S1 4 0)))]]) H16 := hP
      replace hD : va_D A (fl [[((ad b1), .inr (4, [.ref (ad (b1 + 1)), .ref (ad (b1 + 6)), .ref (ad (b1 + 13)), .ref (ad (b1 + 23)), .ref (ad (b1 + 27)), .int (S1 4 1 0)]))], (w_X6 ad (b1 + 1) cs (S1 0)), (w_X1 ad (b1 + 6) cs (S1 1)), (w_X4 ad (b1 + 13) cs (S1 2)), (w_X8 ad (b1 + 23) cs (S1 3)), [((ad (b1 + 27)), .inl (cs 0, 3, .inl (S1 4 0)))]]) := hD
      refine cl_Vi (As := [.int p2]) (rest := []) (L := [[((ad b1), .inr (4, [.ref (ad (b1 + 1)), .ref (ad (b1 + 6)), .ref (ad (b1 + 13)), .ref (ad (b1 + 23)), .ref (ad (b1 + 27)), .int (S1 4 1 0)]))], (w_X6 ad (b1 + 1) cs (S1 0)), (w_X1 ad (b1 + 6) cs (S1 1)), (w_X4 ad (b1 + 13) cs (S1 2)), (w_X8 ad (b1 + 23) cs (S1 3)), [((ad (b1 + 27)), .inl (cs 0, 3, .inl (S1 4 0)))]]) (L' := [[((ad b1), .inr (4, [.ref (ad (b1 + 1)), .ref (ad (b1 + 6)), .ref (ad (b1 + 13)), .ref (ad (b1 + 23)), .ref (ad (b1 + 27)), .int (S1 4 1 0)]))], (w_X6 ad (b1 + 1) cs (S1 0)), (w_X1 ad (b1 + 6) cs (S1 1)), (w_X4 ad (b1 + 13) cs (S1 2)), (w_X8 ad (b1 + 23) cs (S1 3)), [((ad (b1 + 27)), .inl (cs 0, 3, .inl (S1 4 0)))]]) (Wc := [(w_X1 ad (b1 + 6) cs (S1 1))]) (Wc' := [(w_X1 ad (b1 + 6) cs (S1 1))]) (is := [2]) (js := [0, 1, 3, 4, 5]) ⟨hx, hb, hml, hown, hts⟩ (k_X1_leastRiddenAt l dC dI cs ad (b1 + 6) H16.size (S1 1) p2 q29 gq29) (cwV 1 hts gX5_beginRide_X1_leastRiddenAt rfl rfl rfl cd_X1_leastRiddenAt ⟨Nat.le_of_ble_eq_true rfl, Nat.le_of_ble_eq_true rfl⟩) hK hP hD hS hA ⟨rfl, rfl, rfl, rfl, rfl, rfl⟩ (jn_nd (is := [2]) hD rfl rfl) 6 0 rfl rfl rfl rfl rfl hl.1 (Nat.le_of_ble_eq_true rfl) dX5_beginRide_29 (fun H29 locs29 hP' hD' hS' => ?_)
      replace hS := hS'
      replace hP : va_P (dC, dI) vwCl (fl [(w_X5 ad (b1) cs S1)]) H29 := hP'
      replace hD : va_D A (fl [(w_X5 ad (b1) cs S1)]) := hD'
      clear hP' hD' hS'
      refine lv_istore_n (lv' := [(3, .int q29), (0, .ref (ad b1)), (1, .int p1), (2, .int p2)]) hx hb dX5_beginRide_32 rfl hl (Nat.le_of_ble_eq_true rfl) rfl (fun ls hl => ?_)
      refine lv_aload_n hx hb dX5_beginRide_33 rfl (lv_at hl 1 rfl) ?_
      refine va_get (D := (dC, dI)) (ci := 4) (v := .ref (ad (b1 + 13))) (C := RX5) (T := TX5) (N := 6) hx hb hts hinX5 hown hK hP 0 rfl rfl 2 (by decide) hF28 (fun _ h9 => h9) rfl dX5_beginRide_34 ?_
      refine lv_iload_n hx hb dX5_beginRide_37 rfl (lv_at hl 2 rfl) ?_
      replace hR := bd_e hR
      obtain ⟨q38, gq38, hR⟩ := hR
      replace hP : va_P (dC, dI) vwCl (fl [[((ad b1), .inr (4, [.ref (ad (b1 + 1)), .ref (ad (b1 + 6)), .ref (ad (b1 + 13)), .ref (ad (b1 + 23)), .ref (ad (b1 + 27)), .int (S1 4 1 0)]))], (w_X6 ad (b1 + 1) cs (S1 0)), (w_X1 ad (b1 + 6) cs (S1 1)), (w_X4 ad (b1 + 13) cs (S1 2)), (w_X8 ad (b1 + 23) cs (S1 3)), [((ad (b1 + 27)), .inl (cs 0, 3, .inl (S1 4 0)))]]) H29 := hP
      replace hD : va_D A (fl [[((ad b1), .inr (4, [.ref (ad (b1 + 1)), .ref (ad (b1 + 6)), .ref (ad (b1 + 13)), .ref (ad (b1 + 23)), .ref (ad (b1 + 27)), .int (S1 4 1 0)]))], (w_X6 ad (b1 + 1) cs (S1 0)), (w_X1 ad (b1 + 6) cs (S1 1)), (w_X4 ad (b1 + 13) cs (S1 2)), (w_X8 ad (b1 + 23) cs (S1 3)), [((ad (b1 + 27)), .inl (cs 0, 3, .inl (S1 4 0)))]]) := hD
      refine cl_Vi (As := [.int p1]) (rest := []) (L := [[((ad b1), .inr (4, [.ref (ad (b1 + 1)), .ref (ad (b1 + 6)), .ref (ad (b1 + 13)), .ref (ad (b1 + 23)), .ref (ad (b1 + 27)), .int (S1 4 1 0)]))], (w_X6 ad (b1 + 1) cs (S1 0)), (w_X1 ad (b1 + 6) cs (S1 1)), (w_X4 ad (b1 + 13) cs (S1 2)), (w_X8 ad (b1 + 23) cs (S1 3)), [((ad (b1 + 27)), .inl (cs 0, 3, .inl (S1 4 0)))]]) (L' := [[((ad b1), .inr (4, [.ref (ad (b1 + 1)), .ref (ad (b1 + 6)), .ref (ad (b1 + 13)), .ref (ad (b1 + 23)), .ref (ad (b1 + 27)), .int (S1 4 1 0)]))], (w_X6 ad (b1 + 1) cs (S1 0)), (w_X1 ad (b1 + 6) cs (S1 1)), (w_X4 ad (b1 + 13) cs (S1 2)), (w_X8 ad (b1 + 23) cs (S1 3)), [((ad (b1 + 27)), .inl (cs 0, 3, .inl (S1 4 0)))]]) (Wc := [(w_X4 ad (b1 + 13) cs (S1 2))]) (Wc' := [(w_X4 ad (b1 + 13) cs (S1 2))]) (is := [3]) (js := [0, 1, 2, 4, 5]) ⟨hx, hb, hml, hown, hts⟩ (k_X4_hasRide l dC dI cs ad (b1 + 13) H29.size (S1 2) p1 q38 gq38) (cwV 1 hts gX5_beginRide_X4_hasRide rfl rfl rfl cd_X4_hasRide ⟨Nat.le_of_ble_eq_true rfl, Nat.le_of_ble_eq_true rfl⟩) hK hP hD hS hA ⟨rfl, rfl, rfl, rfl, rfl, rfl⟩ (jn_nd (is := [3]) hD rfl rfl) 13 3 rfl rfl rfl rfl rfl hl.1 (Nat.le_of_ble_eq_true rfl) dX5_beginRide_38 (fun H38 locs38 hP' hD' hS' => ?_)
      replace hS := hS'
      replace hP : va_P (dC, dI) vwCl (fl [(w_X5 ad (b1) cs S1)]) H38 := hP'
      replace hD : va_D A (fl [(w_X5 ad (b1) cs S1)]) := hD'
      clear hP' hD' hS'
      refine lv_if_ne (tgt := 55) hx hb dX5_beginRide_41 (by decide) (fun c41 => ?_) (fun c41 => ?_)
      · replace hR := it_f hR c41
        refine lv_bipush (v := (-2)) hx hb dX5_beginRide_55 bp_m2 ?_
        replace hR := Option.some.inj hR
        obtain ⟨e9, hR⟩ := Prod.mk.inj hR
        have eu1 := hR
        replace hP : va_P (dC, dI) vwCl (fl [(w_X5 ad (b1) cs u1)]) H38 := by rw [← eu1]; exact hP
        replace hD : va_D A (fl [(w_X5 ad (b1) cs u1)]) := by rw [← eu1]; exact hD
        exact W.iret hx hb hr (fun t ht hW => ⟨⟨_, (), rfl, e9, by rw [ht]; exact hP, va_K.moved hW.alike hK, hD⟩, hS.F ht⟩) hS.2.2 dX5_beginRide_57
      · replace hR := it_t hR c41
        refine lv_aload_n hx hb dX5_beginRide_44 rfl (lv_at hl 1 rfl) ?_
        refine va_get (D := (dC, dI)) (ci := 4) (v := .ref (ad (b1 + 6))) (C := RX5) (T := TX5) (N := 6) hx hb hts hinX5 hown hK hP 0 rfl rfl 1 (by decide) hF21 (fun _ h9 => h9) rfl dX5_beginRide_45 ?_
        refine lv_iload_n hx hb dX5_beginRide_48 rfl (lv_at hl 0 rfl) ?_
        replace hR := bd_e hR
        obtain ⟨q49, gq49, hR⟩ := hR
        replace hP : va_P (dC, dI) vwCl (fl [[((ad b1), .inr (4, [.ref (ad (b1 + 1)), .ref (ad (b1 + 6)), .ref (ad (b1 + 13)), .ref (ad (b1 + 23)), .ref (ad (b1 + 27)), .int (S1 4 1 0)]))], (w_X6 ad (b1 + 1) cs (S1 0)), (w_X1 ad (b1 + 6) cs (S1 1)), (w_X4 ad (b1 + 13) cs (S1 2)), (w_X8 ad (b1 + 23) cs (S1 3)), [((ad (b1 + 27)), .inl (cs 0, 3, .inl (S1 4 0)))]]) H38 := hP
        replace hD : va_D A (fl [[((ad b1), .inr (4, [.ref (ad (b1 + 1)), .ref (ad (b1 + 6)), .ref (ad (b1 + 13)), .ref (ad (b1 + 23)), .ref (ad (b1 + 27)), .int (S1 4 1 0)]))], (w_X6 ad (b1 + 1) cs (S1 0)), (w_X1 ad (b1 + 6) cs (S1 1)), (w_X4 ad (b1 + 13) cs (S1 2)), (w_X8 ad (b1 + 23) cs (S1 3)), [((ad (b1 + 27)), .inl (cs 0, 3, .inl (S1 4 0)))]]) := hD
        refine cl_Vi (As := [.int q29]) (rest := []) (L := [[((ad b1), .inr (4, [.ref (ad (b1 + 1)), .ref (ad (b1 + 6)), .ref (ad (b1 + 13)), .ref (ad (b1 + 23)), .ref (ad (b1 + 27)), .int (S1 4 1 0)]))], (w_X6 ad (b1 + 1) cs (S1 0)), (w_X1 ad (b1 + 6) cs (S1 1)), (w_X4 ad (b1 + 13) cs (S1 2)), (w_X8 ad (b1 + 23) cs (S1 3)), [((ad (b1 + 27)), .inl (cs 0, 3, .inl (S1 4 0)))]]) (L' := [[((ad b1), .inr (4, [.ref (ad (b1 + 1)), .ref (ad (b1 + 6)), .ref (ad (b1 + 13)), .ref (ad (b1 + 23)), .ref (ad (b1 + 27)), .int (S1 4 1 0)]))], (w_X6 ad (b1 + 1) cs (S1 0)), (w_X1 ad (b1 + 6) cs (S1 1)), (w_X4 ad (b1 + 13) cs (S1 2)), (w_X8 ad (b1 + 23) cs (S1 3)), [((ad (b1 + 27)), .inl (cs 0, 3, .inl (S1 4 0)))]]) (Wc := [(w_X1 ad (b1 + 6) cs (S1 1))]) (Wc' := [(w_X1 ad (b1 + 6) cs (S1 1))]) (is := [2]) (js := [0, 1, 3, 4, 5]) ⟨hx, hb, hml, hown, hts⟩ (k_X1_has l dC dI cs ad (b1 + 6) H38.size (S1 1) q29 q49 gq49) (cwV 1 hts gX5_beginRide_X1_has rfl rfl rfl cd_X1_has ⟨Nat.le_of_ble_eq_true rfl, Nat.le_of_ble_eq_true rfl⟩) hK hP hD hS hA ⟨rfl, rfl, rfl, rfl, rfl, rfl⟩ (jn_nd (is := [2]) hD rfl rfl) 6 0 rfl rfl rfl rfl rfl hl.1 (Nat.le_of_ble_eq_true rfl) dX5_beginRide_49 (fun H49 locs49 hP' hD' hS' => ?_)
        replace hS := hS'
        replace hP : va_P (dC, dI) vwCl (fl [(w_X5 ad (b1) cs S1)]) H49 := hP'
        replace hD : va_D A (fl [(w_X5 ad (b1) cs S1)]) := hD'
        clear hP' hD' hS'
        refine lv_if_ne (tgt := 58) hx hb dX5_beginRide_52 (by decide) (fun c52 => ?_) (fun c52 => ?_)
        · replace hR := it_f hR c52
          refine lv_aload_n hx hb dX5_beginRide_58 rfl (lv_at hl 1 rfl) ?_
          refine va_get (D := (dC, dI)) (ci := 4) (v := .int (S1 4 1 0)) (C := RX5) (T := TX5) (N := 6) hx hb hts hinX5 hown hK hP 0 rfl rfl 5 (by decide) hF62 (fun _ h9 => h9) rfl dX5_beginRide_59 ?_
          refine lv_aload_n hx hb dX5_beginRide_62 rfl (lv_at hl 1 rfl) ?_
          refine va_get (D := (dC, dI)) (ci := 4) (v := .ref (ad (b1 + 13))) (C := RX5) (T := TX5) (N := 6) hx hb hts hinX5 hown hK hP 0 rfl rfl 2 (by decide) hF28 (fun _ h9 => h9) rfl dX5_beginRide_63 ?_
          refine va_get (D := (dC, dI)) (ci := 3) (v := .ref (ad (b1 + 13 + 2))) (C := RX4) (T := TX4) (N := 10) hx hb hts hinX4 hown hK hP 13 rfl rfl 2 (by decide) hF85 (fun _ h9 => h9) rfl dX5_beginRide_66 ?_
          refine lv_iload_n hx hb dX5_beginRide_69 rfl (lv_at hl 2 rfl) ?_
          replace hR := gi_e hR
          obtain ⟨i70, hR⟩ := hR
          refine va_iald hx hb hK hP 15 0 rfl rfl i70 dX5_beginRide_70 ?_
          refine lv_icmp_ge (tgt := 78) hx hb dX5_beginRide_71 (by decide) (fun c71 => ?_) (fun c71 => ?_)
          · replace hR := it_t hR c71
            refine lv_iconst (v := 0) hx hb dX5_beginRide_78 ic_0 ?_
            exact hB79 S1 q29 (0 : Int32) H49 _ ls hR hP hD hS (lv_sub hl [1, 2, 3, 0] rfl)
          · replace hR := it_f hR c71
            refine lv_iconst (v := 1) hx hb dX5_beginRide_74 ic_1 ?_
            refine lv_goto (tgt := 79) hx hb dX5_beginRide_75 (by decide) ?_
            exact hB79 S1 q29 (1 : Int32) H49 _ ls hR hP hD hS (lv_sub hl [1, 2, 3, 0] rfl)
        · replace hR := it_t hR c52
          refine lv_bipush (v := (-2)) hx hb dX5_beginRide_55 bp_m2 ?_
          replace hR := Option.some.inj hR
          obtain ⟨e9, hR⟩ := Prod.mk.inj hR
          have eu1 := hR
          replace hP : va_P (dC, dI) vwCl (fl [(w_X5 ad (b1) cs u1)]) H49 := by rw [← eu1]; exact hP
          replace hD : va_D A (fl [(w_X5 ad (b1) cs u1)]) := by rw [← eu1]; exact hD
          exact W.iret hx hb hr (fun t ht hW => ⟨⟨_, (), rfl, e9, by rw [ht]; exact hP, va_K.moved hW.alike hK, hD⟩, hS.F ht⟩) hS.2.2 dX5_beginRide_57
    · replace hR := it_t hR c19
      refine lv_iconst (v := (-1)) hx hb dX5_beginRide_22 ic_m1 ?_
      replace hR := Option.some.inj hR
      obtain ⟨e9, hR⟩ := Prod.mk.inj hR
      have eu1 := hR
      replace hP : va_P (dC, dI) vwCl (fl [(w_X5 ad (b1) cs u1)]) H16 := by rw [← eu1]; exact hP
      replace hD : va_D A (fl [(w_X5 ad (b1) cs u1)]) := by rw [← eu1]; exact hD
      exact W.iret hx hb hr (fun t ht hW => ⟨⟨_, (), rfl, e9, by rw [ht]; exact hP, va_K.moved hW.alike hK, hD⟩, hS.F ht⟩) hS.2.2 dX5_beginRide_23
set_option maxHeartbeats 8000000 in
set_option maxRecDepth 100000 in
theorem k_X5_endRide (l : Launch) (dC : Nat → ClassId) (dI : Nat → Nat → Nat) (cs : Nat → ClassId) (ad : Nat → Nat) (b1 : Nat) (sz : Nat) (S1 : T3) (p1 : Int32) (p2 : Int32) (r : Int32) (u1 : T3) (hR : fX5_endRide S1 p1 p2 = some (r, u1)) : Met l yX5_endRide wsX5_endRide ({ frames := 3, cells := 0, slots := 0, locals := 66 } : Room) (va_Pc [.ref (ad b1), .int p1, .int p2] (pW dC dI (tyL cs) (fl [(w_X5 ad (b1) cs S1)]) sz)) (QI dC dI (tyL cs) (va_A (fl [(w_X5 ad (b1) cs S1)]) sz) (fl [(w_X5 ad (b1) cs u1)]) r) 0 0 (va_A (fl [(w_X5 ad (b1) cs S1)]) sz) := by
  refine mt_of (own := RX5) (cc := cX5_endRide) (maxL := 5) (ret := (some .int)) (Qc := fun A => QI dC dI (tyL cs) A (fl [(w_X5 ad (b1) cs u1)]) r) rfl (by decide) rfl (Nat.le_of_ble_eq_true rfl) (fun p e s m below meth c A ls hsz hx hb hr hts hown hlocks hml hA hK hP hD hS hl => ?_)
  subst hsz
  have hl : lv_has ls 5 [(0, .ref (ad b1)), (1, .int p1), (2, .int p2)] := hl
  have hF12 := hts (.fieldLink RX5 12 "DockedBikes$Road" "stations" "LDockedBikes$Stations;") (List.mem_of_getElem? (i := 2) rfl)
  have hF21 := hts (.fieldLink RX5 21 "DockedBikes$Road" "bicycles" "LDockedBikes$Bicycles;") (List.mem_of_getElem? (i := 4) rfl)
  have hF28 := hts (.fieldLink RX5 28 "DockedBikes$Road" "riders" "LDockedBikes$Riders;") (List.mem_of_getElem? (i := 1) rfl)
  have hF62 := hts (.fieldLink RX5 62 "DockedBikes$Road" "time" "I") (List.mem_of_getElem? (i := 5) rfl)
  have hF96 := hts (.fieldLink RX5 96 "DockedBikes$Riders" "owed" "[I") (List.mem_of_getElem? (i := 8) rfl)
  have hF106 := hts (.fieldLink RX5 106 "DockedBikes$Riders" "bicycle" "[I") (List.mem_of_getElem? (i := 3) rfl)
  have hF131 := hts (.fieldLink RX5 131 "DockedBikes$Bicycles" "minutes" "[I") (List.mem_of_getElem? (i := 6) rfl)
  have hF137 := hts (.fieldLink RX5 137 "DockedBikes$Bicycles" "rides" "[I") (List.mem_of_getElem? (i := 7) rfl)
  have hF140 := hts (.fieldLink RX5 140 "DockedBikes$Riders" "rides" "[I") (List.mem_of_getElem? (i := 9) rfl)
  have hF141 := hts (.fieldLink RX5 141 "DockedBikes$Stations" "ended" "[I") (List.mem_of_getElem? (i := 10) rfl)
  have hinX1 : ∀ w ∈ wsX10, w ∈ wsX5_endRide := by decide +kernel
  have hinX4 : ∀ w ∈ wsX40, w ∈ wsX5_endRide := by decide +kernel
  have hinX5 : ∀ w ∈ wsX50, w ∈ wsX5_endRide := by decide +kernel
  have hinX6 : ∀ w ∈ wsX60, w ∈ wsX5_endRide := by decide +kernel
  refine lv_aload_n hx hb dX5_endRide_0 rfl (lv_at hl 0 rfl) ?_
  refine va_get (D := (dC, dI)) (ci := 4) (v := .ref (ad (b1 + 13))) (C := RX5) (T := TX5) (N := 6) hx hb hts hinX5 hown hK hP 0 rfl rfl 2 (by decide) hF28 (fun _ h9 => h9) rfl dX5_endRide_1 ?_
  refine lv_iload_n hx hb dX5_endRide_4 rfl (lv_at hl 1 rfl) ?_
  replace hR := bd_e hR
  obtain ⟨q5, gq5, hR⟩ := hR
  replace hP : va_P (dC, dI) vwCl (fl [[((ad b1), .inr (4, [.ref (ad (b1 + 1)), .ref (ad (b1 + 6)), .ref (ad (b1 + 13)), .ref (ad (b1 + 23)), .ref (ad (b1 + 27)), .int (S1 4 1 0)]))], (w_X6 ad (b1 + 1) cs (S1 0)), (w_X1 ad (b1 + 6) cs (S1 1)), (w_X4 ad (b1 + 13) cs (S1 2)), (w_X8 ad (b1 + 23) cs (S1 3)), [((ad (b1 + 27)), .inl (cs 0, 3, .inl (S1 4 0)))]]) s.heap := hP
  replace hD : va_D A (fl [[((ad b1), .inr (4, [.ref (ad (b1 + 1)), .ref (ad (b1 + 6)), .ref (ad (b1 + 13)), .ref (ad (b1 + 23)), .ref (ad (b1 + 27)), .int (S1 4 1 0)]))], (w_X6 ad (b1 + 1) cs (S1 0)), (w_X1 ad (b1 + 6) cs (S1 1)), (w_X4 ad (b1 + 13) cs (S1 2)), (w_X8 ad (b1 + 23) cs (S1 3)), [((ad (b1 + 27)), .inl (cs 0, 3, .inl (S1 4 0)))]]) := hD
  refine cl_Vi (As := [.int p1]) (rest := []) (L := [[((ad b1), .inr (4, [.ref (ad (b1 + 1)), .ref (ad (b1 + 6)), .ref (ad (b1 + 13)), .ref (ad (b1 + 23)), .ref (ad (b1 + 27)), .int (S1 4 1 0)]))], (w_X6 ad (b1 + 1) cs (S1 0)), (w_X1 ad (b1 + 6) cs (S1 1)), (w_X4 ad (b1 + 13) cs (S1 2)), (w_X8 ad (b1 + 23) cs (S1 3)), [((ad (b1 + 27)), .inl (cs 0, 3, .inl (S1 4 0)))]]) (L' := [[((ad b1), .inr (4, [.ref (ad (b1 + 1)), .ref (ad (b1 + 6)), .ref (ad (b1 + 13)), .ref (ad (b1 + 23)), .ref (ad (b1 + 27)), .int (S1 4 1 0)]))], (w_X6 ad (b1 + 1) cs (S1 0)), (w_X1 ad (b1 + 6) cs (S1 1)), (w_X4 ad (b1 + 13) cs (S1 2)), (w_X8 ad (b1 + 23) cs (S1 3)), [((ad (b1 + 27)), .inl (cs 0, 3, .inl (S1 4 0)))]]) (Wc := [(w_X4 ad (b1 + 13) cs (S1 2))]) (Wc' := [(w_X4 ad (b1 + 13) cs (S1 2))]) (is := [3]) (js := [0, 1, 2, 4, 5]) ⟨hx, hb, hml, hown, hts⟩ (k_X4_has l dC dI cs ad (b1 + 13) s.heap.size (S1 2) p1 q5 gq5) (cwV 1 hts gX5_endRide_X4_has rfl rfl rfl cd_X4_has ⟨Nat.le_of_ble_eq_true rfl, Nat.le_of_ble_eq_true rfl⟩) hK hP hD hS hA ⟨rfl, rfl, rfl, rfl, rfl, rfl⟩ (jn_nd (is := [3]) hD rfl rfl) 13 3 rfl rfl rfl rfl rfl hl.1 (Nat.le_of_ble_eq_true rfl) dX5_endRide_5 (fun H5 locs5 hP' hD' hS' => ?_)
  replace hS := hS'
  replace hP : va_P (dC, dI) vwCl (fl [(w_X5 ad (b1) cs S1)]) H5 := hP'
  replace hD : va_D A (fl [(w_X5 ad (b1) cs S1)]) := hD'
  clear hP' hD' hS'
  refine lv_if_eq (tgt := 22) hx hb dX5_endRide_8 (by decide) (fun c8 => ?_) (fun c8 => ?_)
  · replace hR := it_t hR c8
    refine lv_iconst (v := (-1)) hx hb dX5_endRide_22 ic_m1 ?_
    replace hR := Option.some.inj hR
    obtain ⟨e9, hR⟩ := Prod.mk.inj hR
    have eu1 := hR
    replace hP : va_P (dC, dI) vwCl (fl [(w_X5 ad (b1) cs u1)]) H5 := by rw [← eu1]; exact hP
    replace hD : va_D A (fl [(w_X5 ad (b1) cs u1)]) := by rw [← eu1]; exact hD
    exact W.iret hx hb hr (fun t ht hW => ⟨⟨_, (), rfl, e9, by rw [ht]; exact hP, va_K.moved hW.alike hK, hD⟩, hS.F ht⟩) hS.2.2 dX5_endRide_23
  · replace hR := it_f hR c8
    refine lv_aload_n hx hb dX5_endRide_11 rfl (lv_at hl 0 rfl) ?_
    refine va_get (D := (dC, dI)) (ci := 4) (v := .ref (ad (b1 + 1))) (C := RX5) (T := TX5) (N := 6) hx hb hts hinX5 hown hK hP 0 rfl rfl 0 (by decide) hF12 (fun _ h9 => h9) rfl dX5_endRide_12 ?_
    refine lv_iload_n hx hb dX5_endRide_15 rfl (lv_at hl 2 rfl) ?_
    replace hR := bd_e hR
    obtain ⟨q16, gq16, hR⟩ := hR
    replace hP : va_P (dC, dI) vwCl (fl [[((ad b1), .inr (4, [.ref (ad (b1 + 1)), .ref (ad (b1 + 6)), .ref (ad (b1 + 13)), .ref (ad (b1 + 23)), .ref (ad (b1 + 27)), .int (S1 4 1 0)]))], (w_X6 ad (b1 + 1) cs (S1 0)), (w_X1 ad (b1 + 6) cs (S1 1)), (w_X4 ad (b1 + 13) cs (S1 2)), (w_X8 ad (b1 + 23) cs (S1 3)), [((ad (b1 + 27)), .inl (cs 0, 3, .inl (S1 4 0)))]]) H5 := hP
    replace hD : va_D A (fl [[((ad b1), .inr (4, [.ref (ad (b1 + 1)), .ref (ad (b1 + 6)), .ref (ad (b1 + 13)), .ref (ad (b1 + 23)), .ref (ad (b1 + 27)), .int (S1 4 1 0)]))], (w_X6 ad (b1 + 1) cs (S1 0)), (w_X1 ad (b1 + 6) cs (S1 1)), (w_X4 ad (b1 + 13) cs (S1 2)), (w_X8 ad (b1 + 23) cs (S1 3)), [((ad (b1 + 27)), .inl (cs 0, 3, .inl (S1 4 0)))]]) := hD
    refine cl_Vi (As := [.int p2]) (rest := []) (L := [[((ad b1), .inr (4, [.ref (ad (b1 + 1)), .ref (ad (b1 + 6)), .ref (ad (b1 + 13)), .ref (ad (b1 + 23)), .ref (ad (b1 + 27)), .int (S1 4 1 0)]))], (w_X6 ad (b1 + 1) cs (S1 0)), (w_X1 ad (b1 + 6) cs (S1 1)), (w_X4 ad (b1 + 13) cs (S1 2)), (w_X8 ad (b1 + 23) cs (S1 3)), [((ad (b1 + 27)), .inl (cs 0, 3, .inl (S1 4 0)))]]) (L' := [[((ad b1), .inr (4, [.ref (ad (b1 + 1)), .ref (ad (b1 + 6)), .ref (ad (b1 + 13)), .ref (ad (b1 + 23)), .ref (ad (b1 + 27)), .int (S1 4 1 0)]))], (w_X6 ad (b1 + 1) cs (S1 0)), (w_X1 ad (b1 + 6) cs (S1 1)), (w_X4 ad (b1 + 13) cs (S1 2)), (w_X8 ad (b1 + 23) cs (S1 3)), [((ad (b1 + 27)), .inl (cs 0, 3, .inl (S1 4 0)))]]) (Wc := [(w_X6 ad (b1 + 1) cs (S1 0))]) (Wc' := [(w_X6 ad (b1 + 1) cs (S1 0))]) (is := [1]) (js := [0, 2, 3, 4, 5]) ⟨hx, hb, hml, hown, hts⟩ (k_X6_has l dC dI cs ad (b1 + 1) H5.size (S1 0) p2 q16 gq16) (cwV 1 hts gX5_endRide_X6_has rfl rfl rfl cd_X6_has ⟨Nat.le_of_ble_eq_true rfl, Nat.le_of_ble_eq_true rfl⟩) hK hP hD hS hA ⟨rfl, rfl, rfl, rfl, rfl, rfl⟩ (jn_nd (is := [1]) hD rfl rfl) 1 5 rfl rfl rfl rfl rfl hl.1 (Nat.le_of_ble_eq_true rfl) dX5_endRide_16 (fun H16 locs16 hP' hD' hS' => ?_)
    replace hS := hS'
    replace hP : va_P (dC, dI) vwCl (fl [(w_X5 ad (b1) cs S1)]) H16 := hP'
    replace hD : va_D A (fl [(w_X5 ad (b1) cs S1)]) := hD'
    clear hP' hD' hS'
    refine lv_if_ne (tgt := 24) hx hb dX5_endRide_19 (by decide) (fun c19 => ?_) (fun c19 => ?_)
    · replace hR := it_f hR c19
      refine lv_aload_n hx hb dX5_endRide_24 rfl (lv_at hl 0 rfl) ?_
      refine va_get (D := (dC, dI)) (ci := 4) (v := .ref (ad (b1 + 13))) (C := RX5) (T := TX5) (N := 6) hx hb hts hinX5 hown hK hP 0 rfl rfl 2 (by decide) hF28 (fun _ h9 => h9) rfl dX5_endRide_25 ?_
      refine va_get (D := (dC, dI)) (ci := 3) (v := .ref (ad (b1 + 13 + 5))) (C := RX4) (T := TX4) (N := 10) hx hb hts hinX4 hown hK hP 13 rfl rfl 5 (by decide) hF106 (fun _ h9 => h9) rfl dX5_endRide_28 ?_
      refine lv_iload_n hx hb dX5_endRide_31 rfl (lv_at hl 1 rfl) ?_
      replace hR := gi_e hR
      obtain ⟨i32, hR⟩ := hR
      refine va_iald hx hb hK hP 18 0 rfl rfl i32 dX5_endRide_32 ?_
      refine lv_istore_n (lv' := [(3, .int (S1 2 4 p1.toNatClampNeg)), (0, .ref (ad b1)), (1, .int p1), (2, .int p2)]) hx hb dX5_endRide_33 rfl hl (Nat.le_of_ble_eq_true rfl) rfl (fun ls hl => ?_)
      refine lv_aload_n hx hb dX5_endRide_34 rfl (lv_at hl 1 rfl) ?_
      refine va_get (D := (dC, dI)) (ci := 4) (v := .ref (ad (b1 + 6))) (C := RX5) (T := TX5) (N := 6) hx hb hts hinX5 hown hK hP 0 rfl rfl 1 (by decide) hF21 (fun _ h9 => h9) rfl dX5_endRide_35 ?_
      refine lv_iload_n hx hb dX5_endRide_38 rfl (lv_at hl 0 rfl) ?_
      replace hR := bd_e hR
      obtain ⟨q39, gq39, hR⟩ := hR
      replace hP : va_P (dC, dI) vwCl (fl [[((ad b1), .inr (4, [.ref (ad (b1 + 1)), .ref (ad (b1 + 6)), .ref (ad (b1 + 13)), .ref (ad (b1 + 23)), .ref (ad (b1 + 27)), .int (S1 4 1 0)]))], (w_X6 ad (b1 + 1) cs (S1 0)), (w_X1 ad (b1 + 6) cs (S1 1)), (w_X4 ad (b1 + 13) cs (S1 2)), (w_X8 ad (b1 + 23) cs (S1 3)), [((ad (b1 + 27)), .inl (cs 0, 3, .inl (S1 4 0)))]]) H16 := hP
      replace hD : va_D A (fl [[((ad b1), .inr (4, [.ref (ad (b1 + 1)), .ref (ad (b1 + 6)), .ref (ad (b1 + 13)), .ref (ad (b1 + 23)), .ref (ad (b1 + 27)), .int (S1 4 1 0)]))], (w_X6 ad (b1 + 1) cs (S1 0)), (w_X1 ad (b1 + 6) cs (S1 1)), (w_X4 ad (b1 + 13) cs (S1 2)), (w_X8 ad (b1 + 23) cs (S1 3)), [((ad (b1 + 27)), .inl (cs 0, 3, .inl (S1 4 0)))]]) := hD
      refine cl_Vi (As := [.int (S1 2 4 p1.toNatClampNeg)]) (rest := []) (L := [[((ad b1), .inr (4, [.ref (ad (b1 + 1)), .ref (ad (b1 + 6)), .ref (ad (b1 + 13)), .ref (ad (b1 + 23)), .ref (ad (b1 + 27)), .int (S1 4 1 0)]))], (w_X6 ad (b1 + 1) cs (S1 0)), (w_X1 ad (b1 + 6) cs (S1 1)), (w_X4 ad (b1 + 13) cs (S1 2)), (w_X8 ad (b1 + 23) cs (S1 3)), [((ad (b1 + 27)), .inl (cs 0, 3, .inl (S1 4 0)))]]) (L' := [[((ad b1), .inr (4, [.ref (ad (b1 + 1)), .ref (ad (b1 + 6)), .ref (ad (b1 + 13)), .ref (ad (b1 + 23)), .ref (ad (b1 + 27)), .int (S1 4 1 0)]))], (w_X6 ad (b1 + 1) cs (S1 0)), (w_X1 ad (b1 + 6) cs (S1 1)), (w_X4 ad (b1 + 13) cs (S1 2)), (w_X8 ad (b1 + 23) cs (S1 3)), [((ad (b1 + 27)), .inl (cs 0, 3, .inl (S1 4 0)))]]) (Wc := [(w_X1 ad (b1 + 6) cs (S1 1))]) (Wc' := [(w_X1 ad (b1 + 6) cs (S1 1))]) (is := [2]) (js := [0, 1, 3, 4, 5]) ⟨hx, hb, hml, hown, hts⟩ (k_X1_has l dC dI cs ad (b1 + 6) H16.size (S1 1) (S1 2 4 p1.toNatClampNeg) q39 gq39) (cwV 1 hts gX5_endRide_X1_has rfl rfl rfl cd_X1_has ⟨Nat.le_of_ble_eq_true rfl, Nat.le_of_ble_eq_true rfl⟩) hK hP hD hS hA ⟨rfl, rfl, rfl, rfl, rfl, rfl⟩ (jn_nd (is := [2]) hD rfl rfl) 6 0 rfl rfl rfl rfl rfl hl.1 (Nat.le_of_ble_eq_true rfl) dX5_endRide_39 (fun H39 locs39 hP' hD' hS' => ?_)
      replace hS := hS'
      replace hP : va_P (dC, dI) vwCl (fl [(w_X5 ad (b1) cs S1)]) H39 := hP'
      replace hD : va_D A (fl [(w_X5 ad (b1) cs S1)]) := hD'
      clear hP' hD' hS'
      refine lv_if_eq (tgt := 53) hx hb dX5_endRide_42 (by decide) (fun c42 => ?_) (fun c42 => ?_)
      · replace hR := it_t hR c42
        refine lv_bipush (v := (-2)) hx hb dX5_endRide_53 bp_m2 ?_
        replace hR := Option.some.inj hR
        obtain ⟨e9, hR⟩ := Prod.mk.inj hR
        have eu1 := hR
        replace hP : va_P (dC, dI) vwCl (fl [(w_X5 ad (b1) cs u1)]) H39 := by rw [← eu1]; exact hP
        replace hD : va_D A (fl [(w_X5 ad (b1) cs u1)]) := by rw [← eu1]; exact hD
        exact W.iret hx hb hr (fun t ht hW => ⟨⟨_, (), rfl, e9, by rw [ht]; exact hP, va_K.moved hW.alike hK, hD⟩, hS.F ht⟩) hS.2.2 dX5_endRide_55
      · replace hR := it_f hR c42
        refine lv_aload_n hx hb dX5_endRide_45 rfl (lv_at hl 1 rfl) ?_
        refine lv_iload_n hx hb dX5_endRide_46 rfl (lv_at hl 3 rfl) ?_
        replace hR := bd_e hR
        obtain ⟨q47, gq47, hR⟩ := hR
        refine cl_Vi (As := [.int p2]) (rest := []) (L := [(w_X5 ad (b1) cs S1)]) (L' := [(w_X5 ad (b1) cs S1)]) (Wc := [(w_X5 ad (b1) cs S1)]) (Wc' := [(w_X5 ad (b1) cs S1)]) (is := [0]) (js := []) ⟨hx, hb, hml, hown, hts⟩ (k_X5_hasFreeDock l dC dI cs ad (b1) H39.size S1 p2 q47 gq47) (cwV 1 hts gX5_endRide_X5_hasFreeDock rfl rfl rfl cd_X5_hasFreeDock ⟨Nat.le_of_ble_eq_true rfl, Nat.le_of_ble_eq_true rfl⟩) hK hP hD hS hA ⟨rfl, rfl, rfl, rfl, rfl, rfl⟩ (jn_nd (is := [0]) hD rfl rfl) 0 4 rfl rfl rfl rfl rfl hl.1 (Nat.le_of_ble_eq_true rfl) dX5_endRide_47 (fun H47 locs47 hP' hD' hS' => ?_)
        replace hS := hS'
        replace hP : va_P (dC, dI) vwCl (fl [(w_X5 ad (b1) cs S1)]) H47 := hP'
        replace hD : va_D A (fl [(w_X5 ad (b1) cs S1)]) := hD'
        clear hP' hD' hS'
        refine lv_if_ne (tgt := 56) hx hb dX5_endRide_50 (by decide) (fun c50 => ?_) (fun c50 => ?_)
        · replace hR := it_f hR c50
          refine lv_aload_n hx hb dX5_endRide_56 rfl (lv_at hl 1 rfl) ?_
          refine va_get (D := (dC, dI)) (ci := 4) (v := .ref (ad (b1 + 13))) (C := RX5) (T := TX5) (N := 6) hx hb hts hinX5 hown hK hP 0 rfl rfl 2 (by decide) hF28 (fun _ h9 => h9) rfl dX5_endRide_57 ?_
          refine lv_iload_n hx hb dX5_endRide_60 rfl (lv_at hl 2 rfl) ?_
          refine lv_aload_n hx hb dX5_endRide_61 rfl (lv_at hl 1 rfl) ?_
          refine va_get (D := (dC, dI)) (ci := 4) (v := .int (S1 4 1 0)) (C := RX5) (T := TX5) (N := 6) hx hb hts hinX5 hown hK hP 0 rfl rfl 5 (by decide) hF62 (fun _ h9 => h9) rfl dX5_endRide_62 ?_
          replace hR := bd_e hR
          obtain ⟨q65, gq65, hR⟩ := hR
          replace hP : va_P (dC, dI) vwCl (fl [[((ad b1), .inr (4, [.ref (ad (b1 + 1)), .ref (ad (b1 + 6)), .ref (ad (b1 + 13)), .ref (ad (b1 + 23)), .ref (ad (b1 + 27)), .int (S1 4 1 0)]))], (w_X6 ad (b1 + 1) cs (S1 0)), (w_X1 ad (b1 + 6) cs (S1 1)), (w_X4 ad (b1 + 13) cs (S1 2)), (w_X8 ad (b1 + 23) cs (S1 3)), [((ad (b1 + 27)), .inl (cs 0, 3, .inl (S1 4 0)))]]) H47 := hP
          replace hD : va_D A (fl [[((ad b1), .inr (4, [.ref (ad (b1 + 1)), .ref (ad (b1 + 6)), .ref (ad (b1 + 13)), .ref (ad (b1 + 23)), .ref (ad (b1 + 27)), .int (S1 4 1 0)]))], (w_X6 ad (b1 + 1) cs (S1 0)), (w_X1 ad (b1 + 6) cs (S1 1)), (w_X4 ad (b1 + 13) cs (S1 2)), (w_X8 ad (b1 + 23) cs (S1 3)), [((ad (b1 + 27)), .inl (cs 0, 3, .inl (S1 4 0)))]]) := hD
          refine cl_Vi (As := [.int p1, .int (S1 4 1 0)]) (rest := []) (L := [[((ad b1), .inr (4, [.ref (ad (b1 + 1)), .ref (ad (b1 + 6)), .ref (ad (b1 + 13)), .ref (ad (b1 + 23)), .ref (ad (b1 + 27)), .int (S1 4 1 0)]))], (w_X6 ad (b1 + 1) cs (S1 0)), (w_X1 ad (b1 + 6) cs (S1 1)), (w_X4 ad (b1 + 13) cs (S1 2)), (w_X8 ad (b1 + 23) cs (S1 3)), [((ad (b1 + 27)), .inl (cs 0, 3, .inl (S1 4 0)))]]) (L' := [[((ad b1), .inr (4, [.ref (ad (b1 + 1)), .ref (ad (b1 + 6)), .ref (ad (b1 + 13)), .ref (ad (b1 + 23)), .ref (ad (b1 + 27)), .int (S1 4 1 0)]))], (w_X6 ad (b1 + 1) cs (S1 0)), (w_X1 ad (b1 + 6) cs (S1 1)), (w_X4 ad (b1 + 13) cs (S1 2)), (w_X8 ad (b1 + 23) cs (S1 3)), [((ad (b1 + 27)), .inl (cs 0, 3, .inl (S1 4 0)))]]) (Wc := [(w_X4 ad (b1 + 13) cs (S1 2))]) (Wc' := [(w_X4 ad (b1 + 13) cs (S1 2))]) (is := [3]) (js := [0, 1, 2, 4, 5]) ⟨hx, hb, hml, hown, hts⟩ (k_X4_fee l dC dI cs ad (b1 + 13) H47.size (S1 2) p1 (S1 4 1 0) q65 gq65) (cwV 2 hts gX5_endRide_X4_fee rfl rfl rfl cd_X4_fee ⟨Nat.le_of_ble_eq_true rfl, Nat.le_of_ble_eq_true rfl⟩) hK hP hD hS hA ⟨rfl, rfl, rfl, rfl, rfl, rfl⟩ (jn_nd (is := [3]) hD rfl rfl) 13 3 rfl rfl rfl rfl rfl hl.1 (Nat.le_of_ble_eq_true rfl) dX5_endRide_65 (fun H65 locs65 hP' hD' hS' => ?_)
          replace hS := hS'
          replace hP : va_P (dC, dI) vwCl (fl [(w_X5 ad (b1) cs S1)]) H65 := hP'
          replace hD : va_D A (fl [(w_X5 ad (b1) cs S1)]) := hD'
          clear hP' hD' hS'
          refine lv_istore (lv' := [(4, .int q65), (3, .int (S1 2 4 p1.toNatClampNeg)), (0, .ref (ad b1)), (1, .int p1), (2, .int p2)]) hx hb dX5_endRide_68 hl (Nat.le_of_ble_eq_true rfl) rfl (fun ls hl => ?_)
          refine lv_aload_n hx hb dX5_endRide_70 rfl (lv_at hl 2 rfl) ?_
          refine va_get (D := (dC, dI)) (ci := 4) (v := .ref (ad (b1 + 6))) (C := RX5) (T := TX5) (N := 6) hx hb hts hinX5 hown hK hP 0 rfl rfl 1 (by decide) hF21 (fun _ h9 => h9) rfl dX5_endRide_71 ?_
          refine va_get (D := (dC, dI)) (ci := 0) (v := .ref (ad (b1 + 6 + 3))) (C := RX1) (T := TX1) (N := 7) hx hb hts hinX1 hown hK hP 6 rfl rfl 3 (by decide) hF131 (fun _ h9 => h9) rfl dX5_endRide_74 ?_
          refine lv_iload_n hx hb dX5_endRide_77 rfl (lv_at hl 1 rfl) ?_
          refine lv_dup2_11 hx hb dX5_endRide_78 rfl rfl ?_
          replace hR := gi_e hR
          obtain ⟨i79, hR⟩ := hR
          refine va_iald hx hb hK hP 9 0 rfl rfl i79 dX5_endRide_79 ?_
          refine lv_aload_n hx hb dX5_endRide_80 rfl (lv_at hl 2 rfl) ?_
          refine va_get (D := (dC, dI)) (ci := 4) (v := .ref (ad (b1 + 13))) (C := RX5) (T := TX5) (N := 6) hx hb hts hinX5 hown hK hP 0 rfl rfl 2 (by decide) hF28 (fun _ h9 => h9) rfl dX5_endRide_81 ?_
          refine lv_iload_n hx hb dX5_endRide_84 rfl (lv_at hl 3 rfl) ?_
          refine lv_aload_n hx hb dX5_endRide_85 rfl (lv_at hl 2 rfl) ?_
          refine va_get (D := (dC, dI)) (ci := 4) (v := .int (S1 4 1 0)) (C := RX5) (T := TX5) (N := 6) hx hb hts hinX5 hown hK hP 0 rfl rfl 5 (by decide) hF62 (fun _ h9 => h9) rfl dX5_endRide_86 ?_
          replace hR := bd_e hR
          obtain ⟨q89, gq89, hR⟩ := hR
          replace hP : va_P (dC, dI) vwCl (fl [[((ad b1), .inr (4, [.ref (ad (b1 + 1)), .ref (ad (b1 + 6)), .ref (ad (b1 + 13)), .ref (ad (b1 + 23)), .ref (ad (b1 + 27)), .int (S1 4 1 0)]))], (w_X6 ad (b1 + 1) cs (S1 0)), (w_X1 ad (b1 + 6) cs (S1 1)), (w_X4 ad (b1 + 13) cs (S1 2)), (w_X8 ad (b1 + 23) cs (S1 3)), [((ad (b1 + 27)), .inl (cs 0, 3, .inl (S1 4 0)))]]) H65 := hP
          replace hD : va_D A (fl [[((ad b1), .inr (4, [.ref (ad (b1 + 1)), .ref (ad (b1 + 6)), .ref (ad (b1 + 13)), .ref (ad (b1 + 23)), .ref (ad (b1 + 27)), .int (S1 4 1 0)]))], (w_X6 ad (b1 + 1) cs (S1 0)), (w_X1 ad (b1 + 6) cs (S1 1)), (w_X4 ad (b1 + 13) cs (S1 2)), (w_X8 ad (b1 + 23) cs (S1 3)), [((ad (b1 + 27)), .inl (cs 0, 3, .inl (S1 4 0)))]]) := hD
          refine cl_Vi (As := [.int p1, .int (S1 4 1 0)]) (rest := [.int (S1 1 2 (S1 2 4 p1.toNatClampNeg).toNatClampNeg), .int (S1 2 4 p1.toNatClampNeg), .ref (ad (b1 + 6 + 3))]) (L := [[((ad b1), .inr (4, [.ref (ad (b1 + 1)), .ref (ad (b1 + 6)), .ref (ad (b1 + 13)), .ref (ad (b1 + 23)), .ref (ad (b1 + 27)), .int (S1 4 1 0)]))], (w_X6 ad (b1 + 1) cs (S1 0)), (w_X1 ad (b1 + 6) cs (S1 1)), (w_X4 ad (b1 + 13) cs (S1 2)), (w_X8 ad (b1 + 23) cs (S1 3)), [((ad (b1 + 27)), .inl (cs 0, 3, .inl (S1 4 0)))]]) (L' := [[((ad b1), .inr (4, [.ref (ad (b1 + 1)), .ref (ad (b1 + 6)), .ref (ad (b1 + 13)), .ref (ad (b1 + 23)), .ref (ad (b1 + 27)), .int (S1 4 1 0)]))], (w_X6 ad (b1 + 1) cs (S1 0)), (w_X1 ad (b1 + 6) cs (S1 1)), (w_X4 ad (b1 + 13) cs (S1 2)), (w_X8 ad (b1 + 23) cs (S1 3)), [((ad (b1 + 27)), .inl (cs 0, 3, .inl (S1 4 0)))]]) (Wc := [(w_X4 ad (b1 + 13) cs (S1 2))]) (Wc' := [(w_X4 ad (b1 + 13) cs (S1 2))]) (is := [3]) (js := [0, 1, 2, 4, 5]) ⟨hx, hb, hml, hown, hts⟩ (k_X4_rideMinutes l dC dI cs ad (b1 + 13) H65.size (S1 2) p1 (S1 4 1 0) q89 gq89) (cwV 2 hts gX5_endRide_X4_rideMinutes rfl rfl rfl cd_X4_rideMinutes ⟨Nat.le_of_ble_eq_true rfl, Nat.le_of_ble_eq_true rfl⟩) hK hP hD hS hA ⟨rfl, rfl, rfl, rfl, rfl, rfl⟩ (jn_nd (is := [3]) hD rfl rfl) 13 3 rfl rfl rfl rfl rfl hl.1 (Nat.le_of_ble_eq_true rfl) dX5_endRide_89 (fun H89 locs89 hP' hD' hS' => ?_)
          replace hS := hS'
          replace hP : va_P (dC, dI) vwCl (fl [(w_X5 ad (b1) cs S1)]) H89 := hP'
          replace hD : va_D A (fl [(w_X5 ad (b1) cs S1)]) := hD'
          clear hP' hD' hS'
          refine lv_iadd hx hb dX5_endRide_92 ?_
          replace hR := gi_e hR
          obtain ⟨i93, hR⟩ := hR
          refine va_iast hx hb hK hP hD hS 9 0 rfl rfl i93 dX5_endRide_93 (fun H93 locs93 hP' hD' hS' => ?_)
          replace hS := hS'
          have hP' : va_P (dC, dI) vwCl (fl [(w_X5 ad (b1) cs (sU S1 1 (sU (S1 1) 2 (sU (S1 1 2) (S1 2 4 p1.toNatClampNeg).toNatClampNeg ((S1 1 2 (S1 2 4 p1.toNatClampNeg).toNatClampNeg) + q89)))))]) H93 := hP'
          have hD' : va_D A (fl [(w_X5 ad (b1) cs (sU S1 1 (sU (S1 1) 2 (sU (S1 1 2) (S1 2 4 p1.toNatClampNeg).toNatClampNeg ((S1 1 2 (S1 2 4 p1.toNatClampNeg).toNatClampNeg) + q89)))))]) := hD'
          replace hR := bn_e hR
          obtain ⟨S1_93, eS1_93, hR⟩ := hR
          replace hP : va_P (dC, dI) vwCl (fl [(w_X5 ad (b1) cs S1_93)]) H93 := by rw [eS1_93]; exact hP'
          replace hD : va_D A (fl [(w_X5 ad (b1) cs S1_93)]) := by rw [eS1_93]; exact hD'
          clear hP' hD' hS'
          refine lv_aload_n hx hb dX5_endRide_94 rfl (lv_at hl 2 rfl) ?_
          refine va_get (D := (dC, dI)) (ci := 4) (v := .ref (ad (b1 + 6))) (C := RX5) (T := TX5) (N := 6) hx hb hts hinX5 hown hK hP 0 rfl rfl 1 (by decide) hF21 (fun _ h9 => h9) rfl dX5_endRide_95 ?_
          refine va_get (D := (dC, dI)) (ci := 0) (v := .ref (ad (b1 + 6 + 5))) (C := RX1) (T := TX1) (N := 7) hx hb hts hinX1 hown hK hP 6 rfl rfl 5 (by decide) hF137 (fun _ h9 => h9) rfl dX5_endRide_98 ?_
          refine lv_iload_n hx hb dX5_endRide_101 rfl (lv_at hl 1 rfl) ?_
          refine lv_dup2_11 hx hb dX5_endRide_102 rfl rfl ?_
          replace hR := gi_e hR
          obtain ⟨i103, hR⟩ := hR
          refine va_iald hx hb hK hP 11 0 rfl rfl i103 dX5_endRide_103 ?_
          refine lv_iconst (v := 1) hx hb dX5_endRide_104 ic_1 ?_
          refine lv_iadd hx hb dX5_endRide_105 ?_
          replace hR := gi_e hR
          obtain ⟨i106, hR⟩ := hR
          refine va_iast hx hb hK hP hD hS 11 0 rfl rfl i106 dX5_endRide_106 (fun H106 locs106 hP' hD' hS' => ?_)
          replace hS := hS'
          have hP' : va_P (dC, dI) vwCl (fl [(w_X5 ad (b1) cs (sU S1_93 1 (sU (S1_93 1) 4 (sU (S1_93 1 4) (S1 2 4 p1.toNatClampNeg).toNatClampNeg ((S1_93 1 4 (S1 2 4 p1.toNatClampNeg).toNatClampNeg) + 1)))))]) H106 := hP'
          have hD' : va_D A (fl [(w_X5 ad (b1) cs (sU S1_93 1 (sU (S1_93 1) 4 (sU (S1_93 1 4) (S1 2 4 p1.toNatClampNeg).toNatClampNeg ((S1_93 1 4 (S1 2 4 p1.toNatClampNeg).toNatClampNeg) + 1)))))]) := hD'
          replace hR := bn_e hR
          obtain ⟨S1_106, eS1_106, hR⟩ := hR
          replace hP : va_P (dC, dI) vwCl (fl [(w_X5 ad (b1) cs S1_106)]) H106 := by rw [eS1_106]; exact hP'
          replace hD : va_D A (fl [(w_X5 ad (b1) cs S1_106)]) := by rw [eS1_106]; exact hD'
          clear hP' hD' hS'
          refine lv_aload_n hx hb dX5_endRide_107 rfl (lv_at hl 2 rfl) ?_
          refine va_get (D := (dC, dI)) (ci := 4) (v := .ref (ad (b1 + 6))) (C := RX5) (T := TX5) (N := 6) hx hb hts hinX5 hown hK hP 0 rfl rfl 1 (by decide) hF21 (fun _ h9 => h9) rfl dX5_endRide_108 ?_
          refine lv_iload_n hx hb dX5_endRide_111 rfl (lv_at hl 1 rfl) ?_
          refine lv_iconst (v := 0) hx hb dX5_endRide_112 ic_0 ?_
          refine lv_iload_n hx hb dX5_endRide_113 rfl (lv_at hl 4 rfl) ?_
          replace hR := bd_e hR
          obtain ⟨q114, gq114, hR⟩ := hR
          replace hP : va_P (dC, dI) vwCl (fl [[((ad b1), .inr (4, [.ref (ad (b1 + 1)), .ref (ad (b1 + 6)), .ref (ad (b1 + 13)), .ref (ad (b1 + 23)), .ref (ad (b1 + 27)), .int (S1_106 4 1 0)]))], (w_X6 ad (b1 + 1) cs (S1_106 0)), (w_X1 ad (b1 + 6) cs (S1_106 1)), (w_X4 ad (b1 + 13) cs (S1_106 2)), (w_X8 ad (b1 + 23) cs (S1_106 3)), [((ad (b1 + 27)), .inl (cs 0, 3, .inl (S1_106 4 0)))]]) H106 := hP
          replace hD : va_D A (fl [[((ad b1), .inr (4, [.ref (ad (b1 + 1)), .ref (ad (b1 + 6)), .ref (ad (b1 + 13)), .ref (ad (b1 + 23)), .ref (ad (b1 + 27)), .int (S1_106 4 1 0)]))], (w_X6 ad (b1 + 1) cs (S1_106 0)), (w_X1 ad (b1 + 6) cs (S1_106 1)), (w_X4 ad (b1 + 13) cs (S1_106 2)), (w_X8 ad (b1 + 23) cs (S1_106 3)), [((ad (b1 + 27)), .inl (cs 0, 3, .inl (S1_106 4 0)))]]) := hD
          refine cl_Vv (As := [.int (S1 2 4 p1.toNatClampNeg), .int (0 : Int32), .int p2]) (rest := []) (L := [[((ad b1), .inr (4, [.ref (ad (b1 + 1)), .ref (ad (b1 + 6)), .ref (ad (b1 + 13)), .ref (ad (b1 + 23)), .ref (ad (b1 + 27)), .int (S1_106 4 1 0)]))], (w_X6 ad (b1 + 1) cs (S1_106 0)), (w_X1 ad (b1 + 6) cs (S1_106 1)), (w_X4 ad (b1 + 13) cs (S1_106 2)), (w_X8 ad (b1 + 23) cs (S1_106 3)), [((ad (b1 + 27)), .inl (cs 0, 3, .inl (S1_106 4 0)))]]) (L' := [[((ad b1), .inr (4, [.ref (ad (b1 + 1)), .ref (ad (b1 + 6)), .ref (ad (b1 + 13)), .ref (ad (b1 + 23)), .ref (ad (b1 + 27)), .int ((sU S1_106 1 q114) 4 1 0)]))], (w_X6 ad (b1 + 1) cs ((sU S1_106 1 q114) 0)), (w_X1 ad (b1 + 6) cs ((sU S1_106 1 q114) 1)), (w_X4 ad (b1 + 13) cs ((sU S1_106 1 q114) 2)), (w_X8 ad (b1 + 23) cs ((sU S1_106 1 q114) 3)), [((ad (b1 + 27)), .inl (cs 0, 3, .inl ((sU S1_106 1 q114) 4 0)))]]) (Wc := [(w_X1 ad (b1 + 6) cs (S1_106 1))]) (Wc' := [(w_X1 ad (b1 + 6) cs q114)]) (is := [2]) (js := [0, 1, 3, 4, 5]) ⟨hx, hb, hml, hown, hts⟩ (k_X1_bring l dC dI cs ad (b1 + 6) H106.size (S1_106 1) (S1 2 4 p1.toNatClampNeg) (0 : Int32) p2 q114 gq114) (cwV 3 hts gX5_endRide_X1_bring rfl rfl rfl cd_X1_bring ⟨Nat.le_of_ble_eq_true rfl, Nat.le_of_ble_eq_true rfl⟩) hK hP hD hS hA ⟨rfl, rfl, rfl, rfl, rfl, rfl⟩ (jn_nd (is := [2]) hD rfl rfl) 6 0 rfl rfl rfl rfl rfl hl.1 (Nat.le_of_ble_eq_true rfl) dX5_endRide_114 (fun H114 locs114 hP' hD' hS' => ?_)
          replace hS := hS'
          have hP' : va_P (dC, dI) vwCl (fl [(w_X5 ad (b1) cs (sU S1_106 1 q114))]) H114 := hP'
          have hD' : va_D A (fl [(w_X5 ad (b1) cs (sU S1_106 1 q114))]) := hD'
          replace hR := bn_e hR
          obtain ⟨S1_114, eS1_114, hR⟩ := hR
          replace hP : va_P (dC, dI) vwCl (fl [(w_X5 ad (b1) cs S1_114)]) H114 := by rw [eS1_114]; exact hP'
          replace hD : va_D A (fl [(w_X5 ad (b1) cs S1_114)]) := by rw [eS1_114]; exact hD'
          clear hP' hD' hS'
          refine lv_aload_n hx hb dX5_endRide_117 rfl (lv_at hl 2 rfl) ?_
          refine va_get (D := (dC, dI)) (ci := 4) (v := .ref (ad (b1 + 13))) (C := RX5) (T := TX5) (N := 6) hx hb hts hinX5 hown hK hP 0 rfl rfl 2 (by decide) hF28 (fun _ h9 => h9) rfl dX5_endRide_118 ?_
          refine va_get (D := (dC, dI)) (ci := 3) (v := .ref (ad (b1 + 13 + 1))) (C := RX4) (T := TX4) (N := 10) hx hb hts hinX4 hown hK hP 13 rfl rfl 1 (by decide) hF96 (fun _ h9 => h9) rfl dX5_endRide_121 ?_
          refine lv_iload_n hx hb dX5_endRide_124 rfl (lv_at hl 3 rfl) ?_
          refine lv_dup2_11 hx hb dX5_endRide_125 rfl rfl ?_
          replace hR := gi_e hR
          obtain ⟨i126, hR⟩ := hR
          refine va_iald hx hb hK hP 14 0 rfl rfl i126 dX5_endRide_126 ?_
          refine lv_iload hx hb dX5_endRide_127 (lv_at hl 0 rfl) ?_
          refine lv_iadd hx hb dX5_endRide_129 ?_
          replace hR := gi_e hR
          obtain ⟨i130, hR⟩ := hR
          refine va_iast hx hb hK hP hD hS 14 0 rfl rfl i130 dX5_endRide_130 (fun H130 locs130 hP' hD' hS' => ?_)
          replace hS := hS'
          have hP' : va_P (dC, dI) vwCl (fl [(w_X5 ad (b1) cs (sU S1_114 2 (sU (S1_114 2) 0 (sU (S1_114 2 0) p1.toNatClampNeg ((S1_114 2 0 p1.toNatClampNeg) + q65)))))]) H130 := hP'
          have hD' : va_D A (fl [(w_X5 ad (b1) cs (sU S1_114 2 (sU (S1_114 2) 0 (sU (S1_114 2 0) p1.toNatClampNeg ((S1_114 2 0 p1.toNatClampNeg) + q65)))))]) := hD'
          replace hR := bn_e hR
          obtain ⟨S1_130, eS1_130, hR⟩ := hR
          replace hP : va_P (dC, dI) vwCl (fl [(w_X5 ad (b1) cs S1_130)]) H130 := by rw [eS1_130]; exact hP'
          replace hD : va_D A (fl [(w_X5 ad (b1) cs S1_130)]) := by rw [eS1_130]; exact hD'
          clear hP' hD' hS'
          refine lv_aload_n hx hb dX5_endRide_131 rfl (lv_at hl 2 rfl) ?_
          refine va_get (D := (dC, dI)) (ci := 4) (v := .ref (ad (b1 + 13))) (C := RX5) (T := TX5) (N := 6) hx hb hts hinX5 hown hK hP 0 rfl rfl 2 (by decide) hF28 (fun _ h9 => h9) rfl dX5_endRide_132 ?_
          refine va_get (D := (dC, dI)) (ci := 3) (v := .ref (ad (b1 + 13 + 4))) (C := RX4) (T := TX4) (N := 10) hx hb hts hinX4 hown hK hP 13 rfl rfl 4 (by decide) hF140 (fun _ h9 => h9) rfl dX5_endRide_135 ?_
          refine lv_iload_n hx hb dX5_endRide_138 rfl (lv_at hl 3 rfl) ?_
          refine lv_dup2_11 hx hb dX5_endRide_139 rfl rfl ?_
          replace hR := gi_e hR
          obtain ⟨i140, hR⟩ := hR
          refine va_iald hx hb hK hP 17 0 rfl rfl i140 dX5_endRide_140 ?_
          refine lv_iconst (v := 1) hx hb dX5_endRide_141 ic_1 ?_
          refine lv_iadd hx hb dX5_endRide_142 ?_
          replace hR := gi_e hR
          obtain ⟨i143, hR⟩ := hR
          refine va_iast hx hb hK hP hD hS 17 0 rfl rfl i143 dX5_endRide_143 (fun H143 locs143 hP' hD' hS' => ?_)
          replace hS := hS'
          have hP' : va_P (dC, dI) vwCl (fl [(w_X5 ad (b1) cs (sU S1_130 2 (sU (S1_130 2) 3 (sU (S1_130 2 3) p1.toNatClampNeg ((S1_130 2 3 p1.toNatClampNeg) + 1)))))]) H143 := hP'
          have hD' : va_D A (fl [(w_X5 ad (b1) cs (sU S1_130 2 (sU (S1_130 2) 3 (sU (S1_130 2 3) p1.toNatClampNeg ((S1_130 2 3 p1.toNatClampNeg) + 1)))))]) := hD'
          replace hR := bn_e hR
          obtain ⟨S1_143, eS1_143, hR⟩ := hR
          replace hP : va_P (dC, dI) vwCl (fl [(w_X5 ad (b1) cs S1_143)]) H143 := by rw [eS1_143]; exact hP'
          replace hD : va_D A (fl [(w_X5 ad (b1) cs S1_143)]) := by rw [eS1_143]; exact hD'
          clear hP' hD' hS'
          refine lv_aload_n hx hb dX5_endRide_144 rfl (lv_at hl 2 rfl) ?_
          refine va_get (D := (dC, dI)) (ci := 4) (v := .ref (ad (b1 + 13))) (C := RX5) (T := TX5) (N := 6) hx hb hts hinX5 hown hK hP 0 rfl rfl 2 (by decide) hF28 (fun _ h9 => h9) rfl dX5_endRide_145 ?_
          refine va_get (D := (dC, dI)) (ci := 3) (v := .ref (ad (b1 + 13 + 5))) (C := RX4) (T := TX4) (N := 10) hx hb hts hinX4 hown hK hP 13 rfl rfl 5 (by decide) hF106 (fun _ h9 => h9) rfl dX5_endRide_148 ?_
          refine lv_iload_n hx hb dX5_endRide_151 rfl (lv_at hl 3 rfl) ?_
          refine lv_iconst (v := (-1)) hx hb dX5_endRide_152 ic_m1 ?_
          replace hR := gi_e hR
          obtain ⟨i153, hR⟩ := hR
          refine va_iast hx hb hK hP hD hS 18 0 rfl rfl i153 dX5_endRide_153 (fun H153 locs153 hP' hD' hS' => ?_)
          replace hS := hS'
          have hP' : va_P (dC, dI) vwCl (fl [(w_X5 ad (b1) cs (sU S1_143 2 (sU (S1_143 2) 4 (sU (S1_143 2 4) p1.toNatClampNeg (-1)))))]) H153 := hP'
          have hD' : va_D A (fl [(w_X5 ad (b1) cs (sU S1_143 2 (sU (S1_143 2) 4 (sU (S1_143 2 4) p1.toNatClampNeg (-1)))))]) := hD'
          replace hR := bn_e hR
          obtain ⟨S1_153, eS1_153, hR⟩ := hR
          replace hP : va_P (dC, dI) vwCl (fl [(w_X5 ad (b1) cs S1_153)]) H153 := by rw [eS1_153]; exact hP'
          replace hD : va_D A (fl [(w_X5 ad (b1) cs S1_153)]) := by rw [eS1_153]; exact hD'
          clear hP' hD' hS'
          refine lv_aload_n hx hb dX5_endRide_154 rfl (lv_at hl 2 rfl) ?_
          refine va_get (D := (dC, dI)) (ci := 4) (v := .ref (ad (b1 + 1))) (C := RX5) (T := TX5) (N := 6) hx hb hts hinX5 hown hK hP 0 rfl rfl 0 (by decide) hF12 (fun _ h9 => h9) rfl dX5_endRide_155 ?_
          refine va_get (D := (dC, dI)) (ci := 5) (v := .ref (ad (b1 + 1 + 4))) (C := RX6) (T := TX6) (N := 5) hx hb hts hinX6 hown hK hP 1 rfl rfl 4 (by decide) hF141 (fun _ h9 => h9) rfl dX5_endRide_158 ?_
          refine lv_iload_n hx hb dX5_endRide_161 rfl (lv_at hl 4 rfl) ?_
          refine lv_dup2_11 hx hb dX5_endRide_162 rfl rfl ?_
          replace hR := gi_e hR
          obtain ⟨i163, hR⟩ := hR
          refine va_iald hx hb hK hP 5 0 rfl rfl i163 dX5_endRide_163 ?_
          refine lv_iconst (v := 1) hx hb dX5_endRide_164 ic_1 ?_
          refine lv_iadd hx hb dX5_endRide_165 ?_
          replace hR := gi_e hR
          obtain ⟨i166, hR⟩ := hR
          refine va_iast hx hb hK hP hD hS 5 0 rfl rfl i166 dX5_endRide_166 (fun H166 locs166 hP' hD' hS' => ?_)
          replace hS := hS'
          have hP' : va_P (dC, dI) vwCl (fl [(w_X5 ad (b1) cs (sU S1_153 0 (sU (S1_153 0) 3 (sU (S1_153 0 3) p2.toNatClampNeg ((S1_153 0 3 p2.toNatClampNeg) + 1)))))]) H166 := hP'
          have hD' : va_D A (fl [(w_X5 ad (b1) cs (sU S1_153 0 (sU (S1_153 0) 3 (sU (S1_153 0 3) p2.toNatClampNeg ((S1_153 0 3 p2.toNatClampNeg) + 1)))))]) := hD'
          replace hR := bn_e hR
          obtain ⟨S1_166, eS1_166, hR⟩ := hR
          replace hP : va_P (dC, dI) vwCl (fl [(w_X5 ad (b1) cs S1_166)]) H166 := by rw [eS1_166]; exact hP'
          replace hD : va_D A (fl [(w_X5 ad (b1) cs S1_166)]) := by rw [eS1_166]; exact hD'
          clear hP' hD' hS'
          refine lv_iload hx hb dX5_endRide_167 (lv_at hl 0 rfl) ?_
          replace hR := Option.some.inj hR
          obtain ⟨e9, hR⟩ := Prod.mk.inj hR
          have eu1 := hR
          replace hP : va_P (dC, dI) vwCl (fl [(w_X5 ad (b1) cs u1)]) H166 := by rw [← eu1]; exact hP
          replace hD : va_D A (fl [(w_X5 ad (b1) cs u1)]) := by rw [← eu1]; exact hD
          exact W.iret hx hb hr (fun t ht hW => ⟨⟨_, (), rfl, e9, by rw [ht]; exact hP, va_K.moved hW.alike hK, hD⟩, hS.F ht⟩) hS.2.2 dX5_endRide_169
        · replace hR := it_t hR c50
          refine lv_bipush (v := (-2)) hx hb dX5_endRide_53 bp_m2 ?_
          replace hR := Option.some.inj hR
          obtain ⟨e9, hR⟩ := Prod.mk.inj hR
          have eu1 := hR
          replace hP : va_P (dC, dI) vwCl (fl [(w_X5 ad (b1) cs u1)]) H47 := by rw [← eu1]; exact hP
          replace hD : va_D A (fl [(w_X5 ad (b1) cs u1)]) := by rw [← eu1]; exact hD
          exact W.iret hx hb hr (fun t ht hW => ⟨⟨_, (), rfl, e9, by rw [ht]; exact hP, va_K.moved hW.alike hK, hD⟩, hS.F ht⟩) hS.2.2 dX5_endRide_55
    · replace hR := it_t hR c19
      refine lv_iconst (v := (-1)) hx hb dX5_endRide_22 ic_m1 ?_
      replace hR := Option.some.inj hR
      obtain ⟨e9, hR⟩ := Prod.mk.inj hR
      have eu1 := hR
      replace hP : va_P (dC, dI) vwCl (fl [(w_X5 ad (b1) cs u1)]) H16 := by rw [← eu1]; exact hP
      replace hD : va_D A (fl [(w_X5 ad (b1) cs u1)]) := by rw [← eu1]; exact hD
      exact W.iret hx hb hr (fun t ht hW => ⟨⟨_, (), rfl, e9, by rw [ht]; exact hP, va_K.moved hW.alike hK, hD⟩, hS.F ht⟩) hS.2.2 dX5_endRide_23
set_option maxHeartbeats 8000000 in
set_option maxRecDepth 100000 in
theorem k_X5_tellFull (l : Launch) (dC : Nat → ClassId) (dI : Nat → Nat → Nat) (cs : Nat → ClassId) (ad : Nat → Nat) (b1 : Nat) (sz : Nat) (S1 : T3) (p1 : Int32) (p2 : Int32) (r : Int32) (u1 : T3) (hR : fX5_tellFull S1 p1 p2 = some (r, u1)) : Met l yX5_tellFull wsX5_tellFull ({ frames := 3, cells := 0, slots := 0, locals := 66 } : Room) (va_Pc [.ref (ad b1), .int p1, .int p2] (pW dC dI (tyL cs) (fl [(w_X5 ad (b1) cs S1)]) sz)) (QI dC dI (tyL cs) (va_A (fl [(w_X5 ad (b1) cs S1)]) sz) (fl [(w_X5 ad (b1) cs u1)]) r) 0 0 (va_A (fl [(w_X5 ad (b1) cs S1)]) sz) := by
  refine mt_of (own := RX5) (cc := cX5_tellFull) (maxL := 4) (ret := (some .int)) (Qc := fun A => QI dC dI (tyL cs) A (fl [(w_X5 ad (b1) cs u1)]) r) rfl (by decide) rfl (Nat.le_of_ble_eq_true rfl) (fun p e s m below meth c A ls hsz hx hb hr hts hown hlocks hml hA hK hP hD hS hl => ?_)
  subst hsz
  have hl : lv_has ls 4 [(0, .ref (ad b1)), (1, .int p1), (2, .int p2)] := hl
  have hF12 := hts (.fieldLink RX5 12 "DockedBikes$Road" "stations" "LDockedBikes$Stations;") (List.mem_of_getElem? (i := 2) rfl)
  have hF28 := hts (.fieldLink RX5 28 "DockedBikes$Road" "riders" "LDockedBikes$Riders;") (List.mem_of_getElem? (i := 1) rfl)
  have hF112 := hts (.fieldLink RX5 112 "DockedBikes$Riders" "free" "[I") (List.mem_of_getElem? (i := 4) rfl)
  have hF118 := hts (.fieldLink RX5 118 "DockedBikes$Riders" "told" "[I") (List.mem_of_getElem? (i := 3) rfl)
  have hinX4 : ∀ w ∈ wsX40, w ∈ wsX5_tellFull := by decide +kernel
  have hinX5 : ∀ w ∈ wsX50, w ∈ wsX5_tellFull := by decide +kernel
  have hB45 : ∀ (S1_45h : T3) (t0_45 : Int32) (H : Heap) (locs : List Loc) (ls : Array Slot), fX5_tellFull_45 p1 p2 S1_45h t0_45 = some (r, u1) → va_P (dC, dI) vwCl (fl [(w_X5 ad (b1) cs S1_45h)]) H → va_D A (fl [(w_X5 ad (b1) cs S1_45h)]) → va_S A s.heap H locs → lv_has ls 4 [(0, .ref (ad b1)), (1, .int p1), (2, .int p2)] → W p l e (headSpec wsX5_tellFull ({ frames := 3, cells := 0, slots := 0, locals := 66 } : Room)).room s m ([.ref (ad b1), .int p1, .int p2] : List Value).toArray below meth c H locs 0 0 (MQ below (QI dC dI (tyL cs) A (fl [(w_X5 ad (b1) cs u1)]) r) ([.ref (ad b1), .int p1, .int p2] : List Value).toArray s 0 0 A) (F0 m 45 ls [.int t0_45]) := by
    intro S1_45h t0_45 H locs ls hR hP hD hS hl
    refine lv_istore_n (lv' := [(3, .int t0_45), (0, .ref (ad b1)), (1, .int p1), (2, .int p2)]) hx hb dX5_tellFull_45 rfl hl (Nat.le_of_ble_eq_true rfl) rfl (fun ls hl => ?_)
    refine lv_aload_n hx hb dX5_tellFull_46 rfl (lv_at hl 1 rfl) ?_
    refine va_get (D := (dC, dI)) (ci := 4) (v := .ref (ad (b1 + 13))) (C := RX5) (T := TX5) (N := 6) hx hb hts hinX5 hown hK hP 0 rfl rfl 2 (by decide) hF28 (fun _ h9 => h9) rfl dX5_tellFull_47 ?_
    refine lv_iload_n hx hb dX5_tellFull_50 rfl (lv_at hl 2 rfl) ?_
    replace hR := bd_e hR
    obtain ⟨q51, gq51, hR⟩ := hR
    replace hP : va_P (dC, dI) vwCl (fl [[((ad b1), .inr (4, [.ref (ad (b1 + 1)), .ref (ad (b1 + 6)), .ref (ad (b1 + 13)), .ref (ad (b1 + 23)), .ref (ad (b1 + 27)), .int (S1_45h 4 1 0)]))], (w_X6 ad (b1 + 1) cs (S1_45h 0)), (w_X1 ad (b1 + 6) cs (S1_45h 1)), (w_X4 ad (b1 + 13) cs (S1_45h 2)), (w_X8 ad (b1 + 23) cs (S1_45h 3)), [((ad (b1 + 27)), .inl (cs 0, 3, .inl (S1_45h 4 0)))]]) H := hP
    replace hD : va_D A (fl [[((ad b1), .inr (4, [.ref (ad (b1 + 1)), .ref (ad (b1 + 6)), .ref (ad (b1 + 13)), .ref (ad (b1 + 23)), .ref (ad (b1 + 27)), .int (S1_45h 4 1 0)]))], (w_X6 ad (b1 + 1) cs (S1_45h 0)), (w_X1 ad (b1 + 6) cs (S1_45h 1)), (w_X4 ad (b1 + 13) cs (S1_45h 2)), (w_X8 ad (b1 + 23) cs (S1_45h 3)), [((ad (b1 + 27)), .inl (cs 0, 3, .inl (S1_45h 4 0)))]]) := hD
    refine cl_Vi (As := [.int p1]) (rest := []) (L := [[((ad b1), .inr (4, [.ref (ad (b1 + 1)), .ref (ad (b1 + 6)), .ref (ad (b1 + 13)), .ref (ad (b1 + 23)), .ref (ad (b1 + 27)), .int (S1_45h 4 1 0)]))], (w_X6 ad (b1 + 1) cs (S1_45h 0)), (w_X1 ad (b1 + 6) cs (S1_45h 1)), (w_X4 ad (b1 + 13) cs (S1_45h 2)), (w_X8 ad (b1 + 23) cs (S1_45h 3)), [((ad (b1 + 27)), .inl (cs 0, 3, .inl (S1_45h 4 0)))]]) (L' := [[((ad b1), .inr (4, [.ref (ad (b1 + 1)), .ref (ad (b1 + 6)), .ref (ad (b1 + 13)), .ref (ad (b1 + 23)), .ref (ad (b1 + 27)), .int (S1_45h 4 1 0)]))], (w_X6 ad (b1 + 1) cs (S1_45h 0)), (w_X1 ad (b1 + 6) cs (S1_45h 1)), (w_X4 ad (b1 + 13) cs (S1_45h 2)), (w_X8 ad (b1 + 23) cs (S1_45h 3)), [((ad (b1 + 27)), .inl (cs 0, 3, .inl (S1_45h 4 0)))]]) (Wc := [(w_X4 ad (b1 + 13) cs (S1_45h 2))]) (Wc' := [(w_X4 ad (b1 + 13) cs (S1_45h 2))]) (is := [3]) (js := [0, 1, 2, 4, 5]) ⟨hx, hb, hml, hown, hts⟩ (k_X4_hasRide l dC dI cs ad (b1 + 13) H.size (S1_45h 2) p1 q51 gq51) (cwV 1 hts gX5_tellFull_X4_hasRide rfl rfl rfl cd_X4_hasRide ⟨Nat.le_of_ble_eq_true rfl, Nat.le_of_ble_eq_true rfl⟩) hK hP hD hS hA ⟨rfl, rfl, rfl, rfl, rfl, rfl⟩ (jn_nd (is := [3]) hD rfl rfl) 13 3 rfl rfl rfl rfl rfl hl.1 (Nat.le_of_ble_eq_true rfl) dX5_tellFull_51 (fun H51 locs51 hP' hD' hS' => ?_)
    replace hS := hS'
    replace hP : va_P (dC, dI) vwCl (fl [(w_X5 ad (b1) cs S1_45h)]) H51 := hP'
    replace hD : va_D A (fl [(w_X5 ad (b1) cs S1_45h)]) := hD'
    clear hP' hD' hS'
    refine lv_if_eq (tgt := 69) hx hb dX5_tellFull_54 (by decide) (fun c54 => ?_) (fun c54 => ?_)
    · replace hR := it_t hR c54
      refine lv_bipush (v := (-2)) hx hb dX5_tellFull_69 bp_m2 ?_
      replace hR := Option.some.inj hR
      obtain ⟨e9, hR⟩ := Prod.mk.inj hR
      have eu1 := hR
      replace hP : va_P (dC, dI) vwCl (fl [(w_X5 ad (b1) cs u1)]) H51 := by rw [← eu1]; exact hP
      replace hD : va_D A (fl [(w_X5 ad (b1) cs u1)]) := by rw [← eu1]; exact hD
      exact W.iret hx hb hr (fun t ht hW => ⟨⟨_, (), rfl, e9, by rw [ht]; exact hP, va_K.moved hW.alike hK, hD⟩, hS.F ht⟩) hS.2.2 dX5_tellFull_71
    · replace hR := it_f hR c54
      refine lv_aload_n hx hb dX5_tellFull_57 rfl (lv_at hl 1 rfl) ?_
      refine lv_iload_n hx hb dX5_tellFull_58 rfl (lv_at hl 3 rfl) ?_
      replace hR := bd_e hR
      obtain ⟨q59, gq59, hR⟩ := hR
      refine cl_Vi (As := [.int p2]) (rest := []) (L := [(w_X5 ad (b1) cs S1_45h)]) (L' := [(w_X5 ad (b1) cs S1_45h)]) (Wc := [(w_X5 ad (b1) cs S1_45h)]) (Wc' := [(w_X5 ad (b1) cs S1_45h)]) (is := [0]) (js := []) ⟨hx, hb, hml, hown, hts⟩ (k_X5_hasFreeDock l dC dI cs ad (b1) H51.size S1_45h p2 q59 gq59) (cwV 1 hts gX5_tellFull_X5_hasFreeDock rfl rfl rfl cd_X5_hasFreeDock ⟨Nat.le_of_ble_eq_true rfl, Nat.le_of_ble_eq_true rfl⟩) hK hP hD hS hA ⟨rfl, rfl, rfl, rfl, rfl, rfl⟩ (jn_nd (is := [0]) hD rfl rfl) 0 4 rfl rfl rfl rfl rfl hl.1 (Nat.le_of_ble_eq_true rfl) dX5_tellFull_59 (fun H59 locs59 hP' hD' hS' => ?_)
      replace hS := hS'
      replace hP : va_P (dC, dI) vwCl (fl [(w_X5 ad (b1) cs S1_45h)]) H59 := hP'
      replace hD : va_D A (fl [(w_X5 ad (b1) cs S1_45h)]) := hD'
      clear hP' hD' hS'
      refine lv_if_ne (tgt := 69) hx hb dX5_tellFull_62 (by decide) (fun c62 => ?_) (fun c62 => ?_)
      · replace hR := it_f hR c62
        refine lv_bipush (v := (-2)) hx hb dX5_tellFull_69 bp_m2 ?_
        replace hR := Option.some.inj hR
        obtain ⟨e9, hR⟩ := Prod.mk.inj hR
        have eu1 := hR
        replace hP : va_P (dC, dI) vwCl (fl [(w_X5 ad (b1) cs u1)]) H59 := by rw [← eu1]; exact hP
        replace hD : va_D A (fl [(w_X5 ad (b1) cs u1)]) := by rw [← eu1]; exact hD
        exact W.iret hx hb hr (fun t ht hW => ⟨⟨_, (), rfl, e9, by rw [ht]; exact hP, va_K.moved hW.alike hK, hD⟩, hS.F ht⟩) hS.2.2 dX5_tellFull_71
      · replace hR := it_t hR c62
        refine lv_iload_n hx hb dX5_tellFull_65 rfl (lv_at hl 0 rfl) ?_
        refine lv_if_eq (tgt := 72) hx hb dX5_tellFull_66 (by decide) (fun c66 => ?_) (fun c66 => ?_)
        · replace hR := it_t hR c66
          refine lv_aload_n hx hb dX5_tellFull_72 rfl (lv_at hl 1 rfl) ?_
          refine va_get (D := (dC, dI)) (ci := 4) (v := .ref (ad (b1 + 13))) (C := RX5) (T := TX5) (N := 6) hx hb hts hinX5 hown hK hP 0 rfl rfl 2 (by decide) hF28 (fun _ h9 => h9) rfl dX5_tellFull_73 ?_
          refine va_get (D := (dC, dI)) (ci := 3) (v := .ref (ad (b1 + 13 + 9))) (C := RX4) (T := TX4) (N := 10) hx hb hts hinX4 hown hK hP 13 rfl rfl 9 (by decide) hF118 (fun _ h9 => h9) rfl dX5_tellFull_76 ?_
          refine lv_iload_n hx hb dX5_tellFull_79 rfl (lv_at hl 2 rfl) ?_
          refine lv_dup2_11 hx hb dX5_tellFull_80 rfl rfl ?_
          replace hR := gi_e hR
          obtain ⟨i81, hR⟩ := hR
          refine va_iald hx hb hK hP 22 0 rfl rfl i81 dX5_tellFull_81 ?_
          refine lv_iconst (v := 1) hx hb dX5_tellFull_82 ic_1 ?_
          refine lv_iload_n hx hb dX5_tellFull_83 rfl (lv_at hl 3 rfl) ?_
          refine lv_ishl hx hb dX5_tellFull_84 ?_
          refine lv_ior hx hb dX5_tellFull_85 ?_
          replace hR := gi_e hR
          obtain ⟨i86, hR⟩ := hR
          refine va_iast hx hb hK hP hD hS 22 0 rfl rfl i86 dX5_tellFull_86 (fun H86 locs86 hP' hD' hS' => ?_)
          replace hS := hS'
          have hP' : va_P (dC, dI) vwCl (fl [(w_X5 ad (b1) cs (sU S1_45h 2 (sU (S1_45h 2) 8 (sU (S1_45h 2 8) p1.toNatClampNeg ((S1_45h 2 8 p1.toNatClampNeg) ||| ((1 : Int32) <<< (p2 &&& 31)))))))]) H86 := hP'
          have hD' : va_D A (fl [(w_X5 ad (b1) cs (sU S1_45h 2 (sU (S1_45h 2) 8 (sU (S1_45h 2 8) p1.toNatClampNeg ((S1_45h 2 8 p1.toNatClampNeg) ||| ((1 : Int32) <<< (p2 &&& 31)))))))]) := hD'
          replace hR := bn_e hR
          obtain ⟨S1_86, eS1_86, hR⟩ := hR
          replace hP : va_P (dC, dI) vwCl (fl [(w_X5 ad (b1) cs S1_86)]) H86 := by rw [eS1_86]; exact hP'
          replace hD : va_D A (fl [(w_X5 ad (b1) cs S1_86)]) := by rw [eS1_86]; exact hD'
          clear hP' hD' hS'
          refine lv_aload_n hx hb dX5_tellFull_87 rfl (lv_at hl 1 rfl) ?_
          refine va_get (D := (dC, dI)) (ci := 4) (v := .ref (ad (b1 + 13))) (C := RX5) (T := TX5) (N := 6) hx hb hts hinX5 hown hK hP 0 rfl rfl 2 (by decide) hF28 (fun _ h9 => h9) rfl dX5_tellFull_88 ?_
          refine va_get (D := (dC, dI)) (ci := 3) (v := .ref (ad (b1 + 13 + 7))) (C := RX4) (T := TX4) (N := 10) hx hb hts hinX4 hown hK hP 13 rfl rfl 7 (by decide) hF112 (fun _ h9 => h9) rfl dX5_tellFull_91 ?_
          refine lv_iload_n hx hb dX5_tellFull_94 rfl (lv_at hl 2 rfl) ?_
          refine lv_dup2_11 hx hb dX5_tellFull_95 rfl rfl ?_
          replace hR := gi_e hR
          obtain ⟨i96, hR⟩ := hR
          refine va_iald hx hb hK hP 20 0 rfl rfl i96 dX5_tellFull_96 ?_
          refine lv_bipush (v := 15) hx hb dX5_tellFull_97 bp_15 ?_
          refine lv_iadd hx hb dX5_tellFull_99 ?_
          replace hR := gi_e hR
          obtain ⟨i100, hR⟩ := hR
          refine va_iast hx hb hK hP hD hS 20 0 rfl rfl i100 dX5_tellFull_100 (fun H100 locs100 hP' hD' hS' => ?_)
          replace hS := hS'
          have hP' : va_P (dC, dI) vwCl (fl [(w_X5 ad (b1) cs (sU S1_86 2 (sU (S1_86 2) 6 (sU (S1_86 2 6) p1.toNatClampNeg ((S1_86 2 6 p1.toNatClampNeg) + 15)))))]) H100 := hP'
          have hD' : va_D A (fl [(w_X5 ad (b1) cs (sU S1_86 2 (sU (S1_86 2) 6 (sU (S1_86 2 6) p1.toNatClampNeg ((S1_86 2 6 p1.toNatClampNeg) + 15)))))]) := hD'
          replace hR := bn_e hR
          obtain ⟨S1_100, eS1_100, hR⟩ := hR
          replace hP : va_P (dC, dI) vwCl (fl [(w_X5 ad (b1) cs S1_100)]) H100 := by rw [eS1_100]; exact hP'
          replace hD : va_D A (fl [(w_X5 ad (b1) cs S1_100)]) := by rw [eS1_100]; exact hD'
          clear hP' hD' hS'
          refine lv_aload_n hx hb dX5_tellFull_101 rfl (lv_at hl 1 rfl) ?_
          refine va_get (D := (dC, dI)) (ci := 4) (v := .ref (ad (b1 + 13))) (C := RX5) (T := TX5) (N := 6) hx hb hts hinX5 hown hK hP 0 rfl rfl 2 (by decide) hF28 (fun _ h9 => h9) rfl dX5_tellFull_102 ?_
          refine va_get (D := (dC, dI)) (ci := 3) (v := .ref (ad (b1 + 13 + 7))) (C := RX4) (T := TX4) (N := 10) hx hb hts hinX4 hown hK hP 13 rfl rfl 7 (by decide) hF112 (fun _ h9 => h9) rfl dX5_tellFull_105 ?_
          refine lv_iload_n hx hb dX5_tellFull_108 rfl (lv_at hl 2 rfl) ?_
          replace hR := gi_e hR
          obtain ⟨i109, hR⟩ := hR
          refine va_iald hx hb hK hP 20 0 rfl rfl i109 dX5_tellFull_109 ?_
          replace hR := Option.some.inj hR
          obtain ⟨e9, hR⟩ := Prod.mk.inj hR
          have eu1 := hR
          replace hP : va_P (dC, dI) vwCl (fl [(w_X5 ad (b1) cs u1)]) H100 := by rw [← eu1]; exact hP
          replace hD : va_D A (fl [(w_X5 ad (b1) cs u1)]) := by rw [← eu1]; exact hD
          exact W.iret hx hb hr (fun t ht hW => ⟨⟨_, (), rfl, e9, by rw [ht]; exact hP, va_K.moved hW.alike hK, hD⟩, hS.F ht⟩) hS.2.2 dX5_tellFull_110
        · replace hR := it_f hR c66
          refine lv_bipush (v := (-2)) hx hb dX5_tellFull_69 bp_m2 ?_
          replace hR := Option.some.inj hR
          obtain ⟨e9, hR⟩ := Prod.mk.inj hR
          have eu1 := hR
          replace hP : va_P (dC, dI) vwCl (fl [(w_X5 ad (b1) cs u1)]) H59 := by rw [← eu1]; exact hP
          replace hD : va_D A (fl [(w_X5 ad (b1) cs u1)]) := by rw [← eu1]; exact hD
          exact W.iret hx hb hr (fun t ht hW => ⟨⟨_, (), rfl, e9, by rw [ht]; exact hP, va_K.moved hW.alike hK, hD⟩, hS.F ht⟩) hS.2.2 dX5_tellFull_71
  refine lv_aload_n hx hb dX5_tellFull_0 rfl (lv_at hl 0 rfl) ?_
  refine va_get (D := (dC, dI)) (ci := 4) (v := .ref (ad (b1 + 13))) (C := RX5) (T := TX5) (N := 6) hx hb hts hinX5 hown hK hP 0 rfl rfl 2 (by decide) hF28 (fun _ h9 => h9) rfl dX5_tellFull_1 ?_
  refine lv_iload_n hx hb dX5_tellFull_4 rfl (lv_at hl 1 rfl) ?_
  replace hR := bd_e hR
  obtain ⟨q5, gq5, hR⟩ := hR
  replace hP : va_P (dC, dI) vwCl (fl [[((ad b1), .inr (4, [.ref (ad (b1 + 1)), .ref (ad (b1 + 6)), .ref (ad (b1 + 13)), .ref (ad (b1 + 23)), .ref (ad (b1 + 27)), .int (S1 4 1 0)]))], (w_X6 ad (b1 + 1) cs (S1 0)), (w_X1 ad (b1 + 6) cs (S1 1)), (w_X4 ad (b1 + 13) cs (S1 2)), (w_X8 ad (b1 + 23) cs (S1 3)), [((ad (b1 + 27)), .inl (cs 0, 3, .inl (S1 4 0)))]]) s.heap := hP
  replace hD : va_D A (fl [[((ad b1), .inr (4, [.ref (ad (b1 + 1)), .ref (ad (b1 + 6)), .ref (ad (b1 + 13)), .ref (ad (b1 + 23)), .ref (ad (b1 + 27)), .int (S1 4 1 0)]))], (w_X6 ad (b1 + 1) cs (S1 0)), (w_X1 ad (b1 + 6) cs (S1 1)), (w_X4 ad (b1 + 13) cs (S1 2)), (w_X8 ad (b1 + 23) cs (S1 3)), [((ad (b1 + 27)), .inl (cs 0, 3, .inl (S1 4 0)))]]) := hD
  refine cl_Vi (As := [.int p1]) (rest := []) (L := [[((ad b1), .inr (4, [.ref (ad (b1 + 1)), .ref (ad (b1 + 6)), .ref (ad (b1 + 13)), .ref (ad (b1 + 23)), .ref (ad (b1 + 27)), .int (S1 4 1 0)]))], (w_X6 ad (b1 + 1) cs (S1 0)), (w_X1 ad (b1 + 6) cs (S1 1)), (w_X4 ad (b1 + 13) cs (S1 2)), (w_X8 ad (b1 + 23) cs (S1 3)), [((ad (b1 + 27)), .inl (cs 0, 3, .inl (S1 4 0)))]]) (L' := [[((ad b1), .inr (4, [.ref (ad (b1 + 1)), .ref (ad (b1 + 6)), .ref (ad (b1 + 13)), .ref (ad (b1 + 23)), .ref (ad (b1 + 27)), .int (S1 4 1 0)]))], (w_X6 ad (b1 + 1) cs (S1 0)), (w_X1 ad (b1 + 6) cs (S1 1)), (w_X4 ad (b1 + 13) cs (S1 2)), (w_X8 ad (b1 + 23) cs (S1 3)), [((ad (b1 + 27)), .inl (cs 0, 3, .inl (S1 4 0)))]]) (Wc := [(w_X4 ad (b1 + 13) cs (S1 2))]) (Wc' := [(w_X4 ad (b1 + 13) cs (S1 2))]) (is := [3]) (js := [0, 1, 2, 4, 5]) ⟨hx, hb, hml, hown, hts⟩ (k_X4_has l dC dI cs ad (b1 + 13) s.heap.size (S1 2) p1 q5 gq5) (cwV 1 hts gX5_tellFull_X4_has rfl rfl rfl cd_X4_has ⟨Nat.le_of_ble_eq_true rfl, Nat.le_of_ble_eq_true rfl⟩) hK hP hD hS hA ⟨rfl, rfl, rfl, rfl, rfl, rfl⟩ (jn_nd (is := [3]) hD rfl rfl) 13 3 rfl rfl rfl rfl rfl hl.1 (Nat.le_of_ble_eq_true rfl) dX5_tellFull_5 (fun H5 locs5 hP' hD' hS' => ?_)
  replace hS := hS'
  replace hP : va_P (dC, dI) vwCl (fl [(w_X5 ad (b1) cs S1)]) H5 := hP'
  replace hD : va_D A (fl [(w_X5 ad (b1) cs S1)]) := hD'
  clear hP' hD' hS'
  refine lv_if_eq (tgt := 22) hx hb dX5_tellFull_8 (by decide) (fun c8 => ?_) (fun c8 => ?_)
  · replace hR := it_t hR c8
    refine lv_iconst (v := (-1)) hx hb dX5_tellFull_22 ic_m1 ?_
    replace hR := Option.some.inj hR
    obtain ⟨e9, hR⟩ := Prod.mk.inj hR
    have eu1 := hR
    replace hP : va_P (dC, dI) vwCl (fl [(w_X5 ad (b1) cs u1)]) H5 := by rw [← eu1]; exact hP
    replace hD : va_D A (fl [(w_X5 ad (b1) cs u1)]) := by rw [← eu1]; exact hD
    exact W.iret hx hb hr (fun t ht hW => ⟨⟨_, (), rfl, e9, by rw [ht]; exact hP, va_K.moved hW.alike hK, hD⟩, hS.F ht⟩) hS.2.2 dX5_tellFull_23
  · replace hR := it_f hR c8
    refine lv_aload_n hx hb dX5_tellFull_11 rfl (lv_at hl 0 rfl) ?_
    refine va_get (D := (dC, dI)) (ci := 4) (v := .ref (ad (b1 + 1))) (C := RX5) (T := TX5) (N := 6) hx hb hts hinX5 hown hK hP 0 rfl rfl 0 (by decide) hF12 (fun _ h9 => h9) rfl dX5_tellFull_12 ?_
    refine lv_iload_n hx hb dX5_tellFull_15 rfl (lv_at hl 2 rfl) ?_
    replace hR := bd_e hR
    obtain ⟨q16, gq16, hR⟩ := hR
    replace hP : va_P (dC, dI) vwCl (fl [[((ad b1), .inr (4, [.ref (ad (b1 + 1)), .ref (ad (b1 + 6)), .ref (ad (b1 + 13)), .ref (ad (b1 + 23)), .ref (ad (b1 + 27)), .int (S1 4 1 0)]))], (w_X6 ad (b1 + 1) cs (S1 0)), (w_X1 ad (b1 + 6) cs (S1 1)), (w_X4 ad (b1 + 13) cs (S1 2)), (w_X8 ad (b1 + 23) cs (S1 3)), [((ad (b1 + 27)), .inl (cs 0, 3, .inl (S1 4 0)))]]) H5 := hP
    replace hD : va_D A (fl [[((ad b1), .inr (4, [.ref (ad (b1 + 1)), .ref (ad (b1 + 6)), .ref (ad (b1 + 13)), .ref (ad (b1 + 23)), .ref (ad (b1 + 27)), .int (S1 4 1 0)]))], (w_X6 ad (b1 + 1) cs (S1 0)), (w_X1 ad (b1 + 6) cs (S1 1)), (w_X4 ad (b1 + 13) cs (S1 2)), (w_X8 ad (b1 + 23) cs (S1 3)), [((ad (b1 + 27)), .inl (cs 0, 3, .inl (S1 4 0)))]]) := hD
    refine cl_Vi (As := [.int p2]) (rest := []) (L := [[((ad b1), .inr (4, [.ref (ad (b1 + 1)), .ref (ad (b1 + 6)), .ref (ad (b1 + 13)), .ref (ad (b1 + 23)), .ref (ad (b1 + 27)), .int (S1 4 1 0)]))], (w_X6 ad (b1 + 1) cs (S1 0)), (w_X1 ad (b1 + 6) cs (S1 1)), (w_X4 ad (b1 + 13) cs (S1 2)), (w_X8 ad (b1 + 23) cs (S1 3)), [((ad (b1 + 27)), .inl (cs 0, 3, .inl (S1 4 0)))]]) (L' := [[((ad b1), .inr (4, [.ref (ad (b1 + 1)), .ref (ad (b1 + 6)), .ref (ad (b1 + 13)), .ref (ad (b1 + 23)), .ref (ad (b1 + 27)), .int (S1 4 1 0)]))], (w_X6 ad (b1 + 1) cs (S1 0)), (w_X1 ad (b1 + 6) cs (S1 1)), (w_X4 ad (b1 + 13) cs (S1 2)), (w_X8 ad (b1 + 23) cs (S1 3)), [((ad (b1 + 27)), .inl (cs 0, 3, .inl (S1 4 0)))]]) (Wc := [(w_X6 ad (b1 + 1) cs (S1 0))]) (Wc' := [(w_X6 ad (b1 + 1) cs (S1 0))]) (is := [1]) (js := [0, 2, 3, 4, 5]) ⟨hx, hb, hml, hown, hts⟩ (k_X6_has l dC dI cs ad (b1 + 1) H5.size (S1 0) p2 q16 gq16) (cwV 1 hts gX5_tellFull_X6_has rfl rfl rfl cd_X6_has ⟨Nat.le_of_ble_eq_true rfl, Nat.le_of_ble_eq_true rfl⟩) hK hP hD hS hA ⟨rfl, rfl, rfl, rfl, rfl, rfl⟩ (jn_nd (is := [1]) hD rfl rfl) 1 5 rfl rfl rfl rfl rfl hl.1 (Nat.le_of_ble_eq_true rfl) dX5_tellFull_16 (fun H16 locs16 hP' hD' hS' => ?_)
    replace hS := hS'
    replace hP : va_P (dC, dI) vwCl (fl [(w_X5 ad (b1) cs S1)]) H16 := hP'
    replace hD : va_D A (fl [(w_X5 ad (b1) cs S1)]) := hD'
    clear hP' hD' hS'
    refine lv_if_ne (tgt := 24) hx hb dX5_tellFull_19 (by decide) (fun c19 => ?_) (fun c19 => ?_)
    · replace hR := it_f hR c19
      refine lv_aload_n hx hb dX5_tellFull_24 rfl (lv_at hl 0 rfl) ?_
      refine va_get (D := (dC, dI)) (ci := 4) (v := .ref (ad (b1 + 13))) (C := RX5) (T := TX5) (N := 6) hx hb hts hinX5 hown hK hP 0 rfl rfl 2 (by decide) hF28 (fun _ h9 => h9) rfl dX5_tellFull_25 ?_
      refine va_get (D := (dC, dI)) (ci := 3) (v := .ref (ad (b1 + 13 + 9))) (C := RX4) (T := TX4) (N := 10) hx hb hts hinX4 hown hK hP 13 rfl rfl 9 (by decide) hF118 (fun _ h9 => h9) rfl dX5_tellFull_28 ?_
      refine lv_iload_n hx hb dX5_tellFull_31 rfl (lv_at hl 1 rfl) ?_
      replace hR := gi_e hR
      obtain ⟨i32, hR⟩ := hR
      refine va_iald hx hb hK hP 22 0 rfl rfl i32 dX5_tellFull_32 ?_
      refine lv_iconst (v := 1) hx hb dX5_tellFull_33 ic_1 ?_
      refine lv_iload_n hx hb dX5_tellFull_34 rfl (lv_at hl 2 rfl) ?_
      refine lv_ishl hx hb dX5_tellFull_35 ?_
      refine lv_iand hx hb dX5_tellFull_36 ?_
      refine lv_if_eq (tgt := 44) hx hb dX5_tellFull_37 (by decide) (fun c37 => ?_) (fun c37 => ?_)
      · replace hR := it_t hR c37
        refine lv_iconst (v := 0) hx hb dX5_tellFull_44 ic_0 ?_
        exact hB45 S1 (0 : Int32) H16 _ ls hR hP hD hS (lv_sub hl [0, 1, 2] rfl)
      · replace hR := it_f hR c37
        refine lv_iconst (v := 1) hx hb dX5_tellFull_40 ic_1 ?_
        refine lv_goto (tgt := 45) hx hb dX5_tellFull_41 (by decide) ?_
        exact hB45 S1 (1 : Int32) H16 _ ls hR hP hD hS (lv_sub hl [0, 1, 2] rfl)
    · replace hR := it_t hR c19
      refine lv_iconst (v := (-1)) hx hb dX5_tellFull_22 ic_m1 ?_
      replace hR := Option.some.inj hR
      obtain ⟨e9, hR⟩ := Prod.mk.inj hR
      have eu1 := hR
      replace hP : va_P (dC, dI) vwCl (fl [(w_X5 ad (b1) cs u1)]) H16 := by rw [← eu1]; exact hP
      replace hD : va_D A (fl [(w_X5 ad (b1) cs u1)]) := by rw [← eu1]; exact hD
      exact W.iret hx hb hr (fun t ht hW => ⟨⟨_, (), rfl, e9, by rw [ht]; exact hP, va_K.moved hW.alike hK, hD⟩, hS.F ht⟩) hS.2.2 dX5_tellFull_23
set_option maxHeartbeats 8000000 in
set_option maxRecDepth 100000 in
theorem k_X5_tellFaulty (l : Launch) (dC : Nat → ClassId) (dI : Nat → Nat → Nat) (cs : Nat → ClassId) (ad : Nat → Nat) (b1 : Nat) (sz : Nat) (S1 : T3) (p1 : Int32) (r : Int32) (u1 : T3) (hR : fX5_tellFaulty S1 p1 = some (r, u1)) : Met l yX5_tellFaulty wsX5_tellFaulty ({ frames := 1, cells := 0, slots := 0, locals := 22 } : Room) (va_Pc [.ref (ad b1), .int p1] (pW dC dI (tyL cs) (fl [(w_X5 ad (b1) cs S1)]) sz)) (QI dC dI (tyL cs) (va_A (fl [(w_X5 ad (b1) cs S1)]) sz) (fl [(w_X5 ad (b1) cs u1)]) r) 0 0 (va_A (fl [(w_X5 ad (b1) cs S1)]) sz) := by
  refine mt_of (own := RX5) (cc := cX5_tellFaulty) (maxL := 4) (ret := (some .int)) (Qc := fun A => QI dC dI (tyL cs) A (fl [(w_X5 ad (b1) cs u1)]) r) rfl (by decide) rfl (Nat.le_of_ble_eq_true rfl) (fun p e s m below meth c A ls hsz hx hb hr hts hown hlocks hml hA hK hP hD hS hl => ?_)
  subst hsz
  have hl : lv_has ls 4 [(0, .ref (ad b1)), (1, .int p1)] := hl
  have hF21 := hts (.fieldLink RX5 21 "DockedBikes$Road" "bicycles" "LDockedBikes$Bicycles;") (List.mem_of_getElem? (i := 1) rfl)
  have hF144 := hts (.fieldLink RX5 144 "DockedBikes$Bicycles" "where" "[I") (List.mem_of_getElem? (i := 2) rfl)
  have hF147 := hts (.fieldLink RX5 147 "DockedBikes$Bicycles" "faulty" "[I") (List.mem_of_getElem? (i := 3) rfl)
  have hinX1 : ∀ w ∈ wsX10, w ∈ wsX5_tellFaulty := by decide +kernel
  have hinX5 : ∀ w ∈ wsX50, w ∈ wsX5_tellFaulty := by decide +kernel
  have hB37 : ∀ (S1_37h : T3) (t0_37 : Int32) (H : Heap) (locs : List Loc) (ls : Array Slot), fX5_tellFaulty_37 p1 S1_37h t0_37 = some (r, u1) → va_P (dC, dI) vwCl (fl [(w_X5 ad (b1) cs S1_37h)]) H → va_D A (fl [(w_X5 ad (b1) cs S1_37h)]) → va_S A s.heap H locs → lv_has ls 4 [(0, .ref (ad b1)), (1, .int p1)] → W p l e (headSpec wsX5_tellFaulty ({ frames := 1, cells := 0, slots := 0, locals := 22 } : Room)).room s m ([.ref (ad b1), .int p1] : List Value).toArray below meth c H locs 0 0 (MQ below (QI dC dI (tyL cs) A (fl [(w_X5 ad (b1) cs u1)]) r) ([.ref (ad b1), .int p1] : List Value).toArray s 0 0 A) (F0 m 37 ls [.int t0_37]) := by
    intro S1_37h t0_37 H locs ls hR hP hD hS hl
    refine lv_istore_n (lv' := [(3, .int t0_37), (0, .ref (ad b1)), (1, .int p1)]) hx hb dX5_tellFaulty_37 rfl hl (Nat.le_of_ble_eq_true rfl) rfl (fun ls hl => ?_)
    refine lv_iload_n hx hb dX5_tellFaulty_38 rfl (lv_at hl 0 rfl) ?_
    refine lv_if_eq (tgt := 54) hx hb dX5_tellFaulty_39 (by decide) (fun c39 => ?_) (fun c39 => ?_)
    · replace hR := it_t hR c39
      refine lv_bipush (v := (-2)) hx hb dX5_tellFaulty_54 bp_m2 ?_
      replace hR := Option.some.inj hR
      obtain ⟨e9, hR⟩ := Prod.mk.inj hR
      have eu1 := hR
      replace hP : va_P (dC, dI) vwCl (fl [(w_X5 ad (b1) cs u1)]) H := by rw [← eu1]; exact hP
      replace hD : va_D A (fl [(w_X5 ad (b1) cs u1)]) := by rw [← eu1]; exact hD
      exact W.iret hx hb hr (fun t ht hW => ⟨⟨_, (), rfl, e9, by rw [ht]; exact hP, va_K.moved hW.alike hK, hD⟩, hS.F ht⟩) hS.2.2 dX5_tellFaulty_56
    · replace hR := it_f hR c39
      refine lv_aload_n hx hb dX5_tellFaulty_42 rfl (lv_at hl 1 rfl) ?_
      refine va_get (D := (dC, dI)) (ci := 4) (v := .ref (ad (b1 + 6))) (C := RX5) (T := TX5) (N := 6) hx hb hts hinX5 hown hK hP 0 rfl rfl 1 (by decide) hF21 (fun _ h9 => h9) rfl dX5_tellFaulty_43 ?_
      refine va_get (D := (dC, dI)) (ci := 0) (v := .ref (ad (b1 + 6 + 4))) (C := RX1) (T := TX1) (N := 7) hx hb hts hinX1 hown hK hP 6 rfl rfl 4 (by decide) hF147 (fun _ h9 => h9) rfl dX5_tellFaulty_46 ?_
      refine lv_iload_n hx hb dX5_tellFaulty_49 rfl (lv_at hl 2 rfl) ?_
      replace hR := gi_e hR
      obtain ⟨i50, hR⟩ := hR
      refine va_iald hx hb hK hP 10 0 rfl rfl i50 dX5_tellFaulty_50 ?_
      refine lv_if_eq (tgt := 57) hx hb dX5_tellFaulty_51 (by decide) (fun c51 => ?_) (fun c51 => ?_)
      · replace hR := it_t hR c51
        refine lv_aload_n hx hb dX5_tellFaulty_57 rfl (lv_at hl 1 rfl) ?_
        refine va_get (D := (dC, dI)) (ci := 4) (v := .ref (ad (b1 + 6))) (C := RX5) (T := TX5) (N := 6) hx hb hts hinX5 hown hK hP 0 rfl rfl 1 (by decide) hF21 (fun _ h9 => h9) rfl dX5_tellFaulty_58 ?_
        refine va_get (D := (dC, dI)) (ci := 0) (v := .ref (ad (b1 + 6 + 4))) (C := RX1) (T := TX1) (N := 7) hx hb hts hinX1 hown hK hP 6 rfl rfl 4 (by decide) hF147 (fun _ h9 => h9) rfl dX5_tellFaulty_61 ?_
        refine lv_iload_n hx hb dX5_tellFaulty_64 rfl (lv_at hl 2 rfl) ?_
        refine lv_iconst (v := 1) hx hb dX5_tellFaulty_65 ic_1 ?_
        replace hR := gi_e hR
        obtain ⟨i66, hR⟩ := hR
        refine va_iast hx hb hK hP hD hS 10 0 rfl rfl i66 dX5_tellFaulty_66 (fun H66 locs66 hP' hD' hS' => ?_)
        replace hS := hS'
        have hP' : va_P (dC, dI) vwCl (fl [(w_X5 ad (b1) cs (sU S1_37h 1 (sU (S1_37h 1) 3 (sU (S1_37h 1 3) p1.toNatClampNeg (1 : Int32)))))]) H66 := hP'
        have hD' : va_D A (fl [(w_X5 ad (b1) cs (sU S1_37h 1 (sU (S1_37h 1) 3 (sU (S1_37h 1 3) p1.toNatClampNeg (1 : Int32)))))]) := hD'
        replace hR := bn_e hR
        obtain ⟨S1_66, eS1_66, hR⟩ := hR
        replace hP : va_P (dC, dI) vwCl (fl [(w_X5 ad (b1) cs S1_66)]) H66 := by rw [eS1_66]; exact hP'
        replace hD : va_D A (fl [(w_X5 ad (b1) cs S1_66)]) := by rw [eS1_66]; exact hD'
        clear hP' hD' hS'
        refine lv_aload_n hx hb dX5_tellFaulty_67 rfl (lv_at hl 1 rfl) ?_
        refine va_get (D := (dC, dI)) (ci := 4) (v := .ref (ad (b1 + 6))) (C := RX5) (T := TX5) (N := 6) hx hb hts hinX5 hown hK hP 0 rfl rfl 1 (by decide) hF21 (fun _ h9 => h9) rfl dX5_tellFaulty_68 ?_
        replace hR := bd_e hR
        obtain ⟨q71, gq71, hR⟩ := hR
        replace hP : va_P (dC, dI) vwCl (fl [[((ad b1), .inr (4, [.ref (ad (b1 + 1)), .ref (ad (b1 + 6)), .ref (ad (b1 + 13)), .ref (ad (b1 + 23)), .ref (ad (b1 + 27)), .int (S1_66 4 1 0)]))], (w_X6 ad (b1 + 1) cs (S1_66 0)), (w_X1 ad (b1 + 6) cs (S1_66 1)), (w_X4 ad (b1 + 13) cs (S1_66 2)), (w_X8 ad (b1 + 23) cs (S1_66 3)), [((ad (b1 + 27)), .inl (cs 0, 3, .inl (S1_66 4 0)))]]) H66 := hP
        replace hD : va_D A (fl [[((ad b1), .inr (4, [.ref (ad (b1 + 1)), .ref (ad (b1 + 6)), .ref (ad (b1 + 13)), .ref (ad (b1 + 23)), .ref (ad (b1 + 27)), .int (S1_66 4 1 0)]))], (w_X6 ad (b1 + 1) cs (S1_66 0)), (w_X1 ad (b1 + 6) cs (S1_66 1)), (w_X4 ad (b1 + 13) cs (S1_66 2)), (w_X8 ad (b1 + 23) cs (S1_66 3)), [((ad (b1 + 27)), .inl (cs 0, 3, .inl (S1_66 4 0)))]]) := hD
        refine cl_Vi (As := []) (rest := []) (L := [[((ad b1), .inr (4, [.ref (ad (b1 + 1)), .ref (ad (b1 + 6)), .ref (ad (b1 + 13)), .ref (ad (b1 + 23)), .ref (ad (b1 + 27)), .int (S1_66 4 1 0)]))], (w_X6 ad (b1 + 1) cs (S1_66 0)), (w_X1 ad (b1 + 6) cs (S1_66 1)), (w_X4 ad (b1 + 13) cs (S1_66 2)), (w_X8 ad (b1 + 23) cs (S1_66 3)), [((ad (b1 + 27)), .inl (cs 0, 3, .inl (S1_66 4 0)))]]) (L' := [[((ad b1), .inr (4, [.ref (ad (b1 + 1)), .ref (ad (b1 + 6)), .ref (ad (b1 + 13)), .ref (ad (b1 + 23)), .ref (ad (b1 + 27)), .int (S1_66 4 1 0)]))], (w_X6 ad (b1 + 1) cs (S1_66 0)), (w_X1 ad (b1 + 6) cs (S1_66 1)), (w_X4 ad (b1 + 13) cs (S1_66 2)), (w_X8 ad (b1 + 23) cs (S1_66 3)), [((ad (b1 + 27)), .inl (cs 0, 3, .inl (S1_66 4 0)))]]) (Wc := [(w_X1 ad (b1 + 6) cs (S1_66 1))]) (Wc' := [(w_X1 ad (b1 + 6) cs (S1_66 1))]) (is := [2]) (js := [0, 1, 3, 4, 5]) ⟨hx, hb, hml, hown, hts⟩ (k_X1_countFaulty l dC dI cs ad (b1 + 6) H66.size (S1_66 1) q71 gq71) (cwV 0 hts gX5_tellFaulty_X1_countFaulty rfl rfl rfl cd_X1_countFaulty ⟨Nat.le_of_ble_eq_true rfl, Nat.le_of_ble_eq_true rfl⟩) hK hP hD hS hA ⟨rfl, rfl, rfl, rfl, rfl, rfl⟩ (jn_nd (is := [2]) hD rfl rfl) 6 0 rfl rfl rfl rfl rfl hl.1 (Nat.le_of_ble_eq_true rfl) dX5_tellFaulty_71 (fun H71 locs71 hP' hD' hS' => ?_)
        replace hS := hS'
        replace hP : va_P (dC, dI) vwCl (fl [(w_X5 ad (b1) cs S1_66)]) H71 := hP'
        replace hD : va_D A (fl [(w_X5 ad (b1) cs S1_66)]) := hD'
        clear hP' hD' hS'
        replace hR := Option.some.inj hR
        obtain ⟨e9, hR⟩ := Prod.mk.inj hR
        have eu1 := hR
        replace hP : va_P (dC, dI) vwCl (fl [(w_X5 ad (b1) cs u1)]) H71 := by rw [← eu1]; exact hP
        replace hD : va_D A (fl [(w_X5 ad (b1) cs u1)]) := by rw [← eu1]; exact hD
        exact W.iret hx hb hr (fun t ht hW => ⟨⟨_, (), rfl, e9, by rw [ht]; exact hP, va_K.moved hW.alike hK, hD⟩, hS.F ht⟩) hS.2.2 dX5_tellFaulty_74
      · replace hR := it_f hR c51
        refine lv_bipush (v := (-2)) hx hb dX5_tellFaulty_54 bp_m2 ?_
        replace hR := Option.some.inj hR
        obtain ⟨e9, hR⟩ := Prod.mk.inj hR
        have eu1 := hR
        replace hP : va_P (dC, dI) vwCl (fl [(w_X5 ad (b1) cs u1)]) H := by rw [← eu1]; exact hP
        replace hD : va_D A (fl [(w_X5 ad (b1) cs u1)]) := by rw [← eu1]; exact hD
        exact W.iret hx hb hr (fun t ht hW => ⟨⟨_, (), rfl, e9, by rw [ht]; exact hP, va_K.moved hW.alike hK, hD⟩, hS.F ht⟩) hS.2.2 dX5_tellFaulty_56
  have hB32 : ∀ (S1_32h : T3) (H : Heap) (locs : List Loc) (ls : Array Slot), fX5_tellFaulty_32 p1 S1_32h = some (r, u1) → va_P (dC, dI) vwCl (fl [(w_X5 ad (b1) cs S1_32h)]) H → va_D A (fl [(w_X5 ad (b1) cs S1_32h)]) → va_S A s.heap H locs → lv_has ls 4 [(0, .ref (ad b1)), (1, .int p1)] → W p l e (headSpec wsX5_tellFaulty ({ frames := 1, cells := 0, slots := 0, locals := 22 } : Room)).room s m ([.ref (ad b1), .int p1] : List Value).toArray below meth c H locs 0 0 (MQ below (QI dC dI (tyL cs) A (fl [(w_X5 ad (b1) cs u1)]) r) ([.ref (ad b1), .int p1] : List Value).toArray s 0 0 A) (F0 m 32 ls []) := by
    intro S1_32h H locs ls hR hP hD hS hl
    refine lv_iconst (v := 1) hx hb dX5_tellFaulty_32 ic_1 ?_
    refine lv_goto (tgt := 37) hx hb dX5_tellFaulty_33 (by decide) ?_
    exact hB37 S1_32h (1 : Int32) H _ ls hR hP hD hS (lv_sub hl [0, 1] rfl)
  refine lv_aload_n hx hb dX5_tellFaulty_0 rfl (lv_at hl 0 rfl) ?_
  refine va_get (D := (dC, dI)) (ci := 4) (v := .ref (ad (b1 + 6))) (C := RX5) (T := TX5) (N := 6) hx hb hts hinX5 hown hK hP 0 rfl rfl 1 (by decide) hF21 (fun _ h9 => h9) rfl dX5_tellFaulty_1 ?_
  refine lv_iload_n hx hb dX5_tellFaulty_4 rfl (lv_at hl 1 rfl) ?_
  replace hR := bd_e hR
  obtain ⟨q5, gq5, hR⟩ := hR
  replace hP : va_P (dC, dI) vwCl (fl [[((ad b1), .inr (4, [.ref (ad (b1 + 1)), .ref (ad (b1 + 6)), .ref (ad (b1 + 13)), .ref (ad (b1 + 23)), .ref (ad (b1 + 27)), .int (S1 4 1 0)]))], (w_X6 ad (b1 + 1) cs (S1 0)), (w_X1 ad (b1 + 6) cs (S1 1)), (w_X4 ad (b1 + 13) cs (S1 2)), (w_X8 ad (b1 + 23) cs (S1 3)), [((ad (b1 + 27)), .inl (cs 0, 3, .inl (S1 4 0)))]]) s.heap := hP
  replace hD : va_D A (fl [[((ad b1), .inr (4, [.ref (ad (b1 + 1)), .ref (ad (b1 + 6)), .ref (ad (b1 + 13)), .ref (ad (b1 + 23)), .ref (ad (b1 + 27)), .int (S1 4 1 0)]))], (w_X6 ad (b1 + 1) cs (S1 0)), (w_X1 ad (b1 + 6) cs (S1 1)), (w_X4 ad (b1 + 13) cs (S1 2)), (w_X8 ad (b1 + 23) cs (S1 3)), [((ad (b1 + 27)), .inl (cs 0, 3, .inl (S1 4 0)))]]) := hD
  refine cl_Vi (As := [.int p1]) (rest := []) (L := [[((ad b1), .inr (4, [.ref (ad (b1 + 1)), .ref (ad (b1 + 6)), .ref (ad (b1 + 13)), .ref (ad (b1 + 23)), .ref (ad (b1 + 27)), .int (S1 4 1 0)]))], (w_X6 ad (b1 + 1) cs (S1 0)), (w_X1 ad (b1 + 6) cs (S1 1)), (w_X4 ad (b1 + 13) cs (S1 2)), (w_X8 ad (b1 + 23) cs (S1 3)), [((ad (b1 + 27)), .inl (cs 0, 3, .inl (S1 4 0)))]]) (L' := [[((ad b1), .inr (4, [.ref (ad (b1 + 1)), .ref (ad (b1 + 6)), .ref (ad (b1 + 13)), .ref (ad (b1 + 23)), .ref (ad (b1 + 27)), .int (S1 4 1 0)]))], (w_X6 ad (b1 + 1) cs (S1 0)), (w_X1 ad (b1 + 6) cs (S1 1)), (w_X4 ad (b1 + 13) cs (S1 2)), (w_X8 ad (b1 + 23) cs (S1 3)), [((ad (b1 + 27)), .inl (cs 0, 3, .inl (S1 4 0)))]]) (Wc := [(w_X1 ad (b1 + 6) cs (S1 1))]) (Wc' := [(w_X1 ad (b1 + 6) cs (S1 1))]) (is := [2]) (js := [0, 1, 3, 4, 5]) ⟨hx, hb, hml, hown, hts⟩ (k_X1_has l dC dI cs ad (b1 + 6) s.heap.size (S1 1) p1 q5 gq5) (cwV 1 hts gX5_tellFaulty_X1_has rfl rfl rfl cd_X1_has ⟨Nat.le_of_ble_eq_true rfl, Nat.le_of_ble_eq_true rfl⟩) hK hP hD hS hA ⟨rfl, rfl, rfl, rfl, rfl, rfl⟩ (jn_nd (is := [2]) hD rfl rfl) 6 0 rfl rfl rfl rfl rfl hl.1 (Nat.le_of_ble_eq_true rfl) dX5_tellFaulty_5 (fun H5 locs5 hP' hD' hS' => ?_)
  replace hS := hS'
  replace hP : va_P (dC, dI) vwCl (fl [(w_X5 ad (b1) cs S1)]) H5 := hP'
  replace hD : va_D A (fl [(w_X5 ad (b1) cs S1)]) := hD'
  clear hP' hD' hS'
  refine lv_if_ne (tgt := 13) hx hb dX5_tellFaulty_8 (by decide) (fun c8 => ?_) (fun c8 => ?_)
  · replace hR := it_f hR c8
    refine lv_aload_n hx hb dX5_tellFaulty_13 rfl (lv_at hl 0 rfl) ?_
    refine va_get (D := (dC, dI)) (ci := 4) (v := .ref (ad (b1 + 6))) (C := RX5) (T := TX5) (N := 6) hx hb hts hinX5 hown hK hP 0 rfl rfl 1 (by decide) hF21 (fun _ h9 => h9) rfl dX5_tellFaulty_14 ?_
    refine va_get (D := (dC, dI)) (ci := 0) (v := .ref (ad (b1 + 6 + 1))) (C := RX1) (T := TX1) (N := 7) hx hb hts hinX1 hown hK hP 6 rfl rfl 1 (by decide) hF144 (fun _ h9 => h9) rfl dX5_tellFaulty_17 ?_
    refine lv_iload_n hx hb dX5_tellFaulty_20 rfl (lv_at hl 1 rfl) ?_
    replace hR := gi_e hR
    obtain ⟨i21, hR⟩ := hR
    refine va_iald hx hb hK hP 7 0 rfl rfl i21 dX5_tellFaulty_21 ?_
    refine lv_istore_n (lv' := [(2, .int (S1 1 0 p1.toNatClampNeg)), (0, .ref (ad b1)), (1, .int p1)]) hx hb dX5_tellFaulty_22 rfl hl (Nat.le_of_ble_eq_true rfl) rfl (fun ls hl => ?_)
    refine lv_iload_n hx hb dX5_tellFaulty_23 rfl (lv_at hl 0 rfl) ?_
    refine lv_if_eq (tgt := 32) hx hb dX5_tellFaulty_24 (by decide) (fun c24 => ?_) (fun c24 => ?_)
    · replace hR := it_t hR c24
      exact hB32 S1 H5 _ ls hR hP hD hS (lv_sub hl [1, 2] rfl)
    · replace hR := it_f hR c24
      refine lv_iload_n hx hb dX5_tellFaulty_27 rfl (lv_at hl 0 rfl) ?_
      refine lv_iconst (v := 1) hx hb dX5_tellFaulty_28 ic_1 ?_
      refine lv_icmp_ne (tgt := 36) hx hb dX5_tellFaulty_29 (by decide) (fun c29 => ?_) (fun c29 => ?_)
      · replace hR := it_f hR c29
        refine lv_iconst (v := 0) hx hb dX5_tellFaulty_36 ic_0 ?_
        exact hB37 S1 (0 : Int32) H5 _ ls hR hP hD hS (lv_sub hl [1, 2] rfl)
      · replace hR := it_t hR c29
        exact hB32 S1 H5 _ ls hR hP hD hS (lv_sub hl [1, 2] rfl)
  · replace hR := it_t hR c8
    refine lv_iconst (v := (-1)) hx hb dX5_tellFaulty_11 ic_m1 ?_
    replace hR := Option.some.inj hR
    obtain ⟨e9, hR⟩ := Prod.mk.inj hR
    have eu1 := hR
    replace hP : va_P (dC, dI) vwCl (fl [(w_X5 ad (b1) cs u1)]) H5 := by rw [← eu1]; exact hP
    replace hD : va_D A (fl [(w_X5 ad (b1) cs u1)]) := by rw [← eu1]; exact hD
    exact W.iret hx hb hr (fun t ht hW => ⟨⟨_, (), rfl, e9, by rw [ht]; exact hP, va_K.moved hW.alike hK, hD⟩, hS.F ht⟩) hS.2.2 dX5_tellFaulty_12
set_option maxHeartbeats 8000000 in
set_option maxRecDepth 100000 in
theorem k_X8_has (l : Launch) (dC : Nat → ClassId) (dI : Nat → Nat → Nat) (cs : Nat → ClassId) (ad : Nat → Nat) (b1 : Nat) (sz : Nat) (S1 : T2) (p1 : Int32) (r : Int32) (hR : fX8_has S1 p1 = some r) : Met l yX8_has wsX8_has ({ frames := 0, cells := 0, slots := 0, locals := 0 } : Room) (va_Pc [.ref (ad b1), .int p1] (pW dC dI (tyL cs) (fl [(w_X8 ad (b1) cs S1)]) sz)) (QI dC dI (tyL cs) (va_A (fl [(w_X8 ad (b1) cs S1)]) sz) (fl [(w_X8 ad (b1) cs S1)]) r) 0 0 (va_A (fl [(w_X8 ad (b1) cs S1)]) sz) := by
  refine mt_of (own := RX8) (cc := cX8_has) (maxL := 2) (ret := (some .boolean)) (Qc := fun A => QI dC dI (tyL cs) A (fl [(w_X8 ad (b1) cs S1)]) r) rfl (by decide) rfl (Nat.le_of_ble_eq_true rfl) (fun p e s m below meth c A ls hsz hx hb hr hts hown hlocks hml hA hK hP hD hS hl => ?_)
  subst hsz
  have hl : lv_has ls 2 [(0, .ref (ad b1)), (1, .int p1)] := hl
  have hF21 := hts (.fieldLink RX8 21 "DockedBikes$Vans" "size" "I") (List.mem_of_getElem? (i := 1) rfl)
  have hinX8 : ∀ w ∈ wsX80, w ∈ wsX8_has := by decide +kernel
  refine lv_iload_n hx hb dX8_has_0 rfl (lv_at hl 1 rfl) ?_
  refine lv_if_lt (tgt := 16) hx hb dX8_has_1 (by decide) (fun c1 => ?_) (fun c1 => ?_)
  · replace hR := it_t hR c1
    refine lv_iconst (v := 0) hx hb dX8_has_16 ic_0 ?_
    replace hR := Option.some.inj hR
    have e9 := hR
    exact W.zret (ty := .boolean) hx hb hr (by decide) (fun t ht hW => ⟨⟨_, (), rfl, e9, by rw [ht]; exact hP, va_K.moved hW.alike hK, hD⟩, hS.F ht⟩) hS.2.2 dX8_has_17
  · replace hR := it_f hR c1
    refine lv_iload_n hx hb dX8_has_4 rfl (lv_at hl 1 rfl) ?_
    refine lv_aload_n hx hb dX8_has_5 rfl (lv_at hl 0 rfl) ?_
    refine va_get (D := (dC, dI)) (ci := 7) (v := .int (S1 3 0)) (C := RX8) (T := TX8) (N := 4) hx hb hts hinX8 hown hK hP 0 rfl rfl 0 (by decide) hF21 (fun _ h9 => h9) rfl dX8_has_6 ?_
    refine lv_icmp_ge (tgt := 16) hx hb dX8_has_9 (by decide) (fun c9 => ?_) (fun c9 => ?_)
    · replace hR := it_t hR c9
      refine lv_iconst (v := 0) hx hb dX8_has_16 ic_0 ?_
      replace hR := Option.some.inj hR
      have e9 := hR
      exact W.zret (ty := .boolean) hx hb hr (by decide) (fun t ht hW => ⟨⟨_, (), rfl, e9, by rw [ht]; exact hP, va_K.moved hW.alike hK, hD⟩, hS.F ht⟩) hS.2.2 dX8_has_17
    · replace hR := it_f hR c9
      refine lv_iconst (v := 1) hx hb dX8_has_12 ic_1 ?_
      refine lv_goto (tgt := 17) hx hb dX8_has_13 (by decide) ?_
      replace hR := Option.some.inj hR
      have e9 := hR
      exact W.zret (ty := .boolean) hx hb hr (by decide) (fun t ht hW => ⟨⟨_, (), rfl, e9, by rw [ht]; exact hP, va_K.moved hW.alike hK, hD⟩, hS.F ht⟩) hS.2.2 dX8_has_17
set_option maxHeartbeats 8000000 in
set_option maxRecDepth 100000 in
theorem k_X5_isUnderWay (l : Launch) (dC : Nat → ClassId) (dI : Nat → Nat → Nat) (cs : Nat → ClassId) (ad : Nat → Nat) (b1 : Nat) (sz : Nat) (S1 : T3) (p1 : Int32) (r : Int32) (hR : fX5_isUnderWay S1 p1 = some r) : Met l yX5_isUnderWay wsX5_isUnderWay ({ frames := 1, cells := 0, slots := 0, locals := 21 } : Room) (va_Pc [.ref (ad b1), .int p1] (pW dC dI (tyL cs) (fl [(w_X5 ad (b1) cs S1)]) sz)) (QI dC dI (tyL cs) (va_A (fl [(w_X5 ad (b1) cs S1)]) sz) (fl [(w_X5 ad (b1) cs S1)]) r) 0 0 (va_A (fl [(w_X5 ad (b1) cs S1)]) sz) := by
  refine mt_of (own := RX5) (cc := cX5_isUnderWay) (maxL := 2) (ret := (some .boolean)) (Qc := fun A => QI dC dI (tyL cs) A (fl [(w_X5 ad (b1) cs S1)]) r) rfl (by decide) rfl (Nat.le_of_ble_eq_true rfl) (fun p e s m below meth c A ls hsz hx hb hr hts hown hlocks hml hA hK hP hD hS hl => ?_)
  subst hsz
  have hl : lv_has ls 2 [(0, .ref (ad b1)), (1, .int p1)] := hl
  have hF35 := hts (.fieldLink RX5 35 "DockedBikes$Road" "vans" "LDockedBikes$Vans;") (List.mem_of_getElem? (i := 1) rfl)
  have hF62 := hts (.fieldLink RX5 62 "DockedBikes$Road" "time" "I") (List.mem_of_getElem? (i := 3) rfl)
  have hF177 := hts (.fieldLink RX5 177 "DockedBikes$Vans" "arrival" "[I") (List.mem_of_getElem? (i := 2) rfl)
  have hinX5 : ∀ w ∈ wsX50, w ∈ wsX5_isUnderWay := by decide +kernel
  have hinX8 : ∀ w ∈ wsX80, w ∈ wsX5_isUnderWay := by decide +kernel
  refine lv_aload_n hx hb dX5_isUnderWay_0 rfl (lv_at hl 0 rfl) ?_
  refine va_get (D := (dC, dI)) (ci := 4) (v := .ref (ad (b1 + 23))) (C := RX5) (T := TX5) (N := 6) hx hb hts hinX5 hown hK hP 0 rfl rfl 3 (by decide) hF35 (fun _ h9 => h9) rfl dX5_isUnderWay_1 ?_
  refine lv_iload_n hx hb dX5_isUnderWay_4 rfl (lv_at hl 1 rfl) ?_
  replace hR := bd_e hR
  obtain ⟨q5, gq5, hR⟩ := hR
  replace hP : va_P (dC, dI) vwCl (fl [[((ad b1), .inr (4, [.ref (ad (b1 + 1)), .ref (ad (b1 + 6)), .ref (ad (b1 + 13)), .ref (ad (b1 + 23)), .ref (ad (b1 + 27)), .int (S1 4 1 0)]))], (w_X6 ad (b1 + 1) cs (S1 0)), (w_X1 ad (b1 + 6) cs (S1 1)), (w_X4 ad (b1 + 13) cs (S1 2)), (w_X8 ad (b1 + 23) cs (S1 3)), [((ad (b1 + 27)), .inl (cs 0, 3, .inl (S1 4 0)))]]) s.heap := hP
  replace hD : va_D A (fl [[((ad b1), .inr (4, [.ref (ad (b1 + 1)), .ref (ad (b1 + 6)), .ref (ad (b1 + 13)), .ref (ad (b1 + 23)), .ref (ad (b1 + 27)), .int (S1 4 1 0)]))], (w_X6 ad (b1 + 1) cs (S1 0)), (w_X1 ad (b1 + 6) cs (S1 1)), (w_X4 ad (b1 + 13) cs (S1 2)), (w_X8 ad (b1 + 23) cs (S1 3)), [((ad (b1 + 27)), .inl (cs 0, 3, .inl (S1 4 0)))]]) := hD
  refine cl_Vi (As := [.int p1]) (rest := []) (L := [[((ad b1), .inr (4, [.ref (ad (b1 + 1)), .ref (ad (b1 + 6)), .ref (ad (b1 + 13)), .ref (ad (b1 + 23)), .ref (ad (b1 + 27)), .int (S1 4 1 0)]))], (w_X6 ad (b1 + 1) cs (S1 0)), (w_X1 ad (b1 + 6) cs (S1 1)), (w_X4 ad (b1 + 13) cs (S1 2)), (w_X8 ad (b1 + 23) cs (S1 3)), [((ad (b1 + 27)), .inl (cs 0, 3, .inl (S1 4 0)))]]) (L' := [[((ad b1), .inr (4, [.ref (ad (b1 + 1)), .ref (ad (b1 + 6)), .ref (ad (b1 + 13)), .ref (ad (b1 + 23)), .ref (ad (b1 + 27)), .int (S1 4 1 0)]))], (w_X6 ad (b1 + 1) cs (S1 0)), (w_X1 ad (b1 + 6) cs (S1 1)), (w_X4 ad (b1 + 13) cs (S1 2)), (w_X8 ad (b1 + 23) cs (S1 3)), [((ad (b1 + 27)), .inl (cs 0, 3, .inl (S1 4 0)))]]) (Wc := [(w_X8 ad (b1 + 23) cs (S1 3))]) (Wc' := [(w_X8 ad (b1 + 23) cs (S1 3))]) (is := [4]) (js := [0, 1, 2, 3, 5]) ⟨hx, hb, hml, hown, hts⟩ (k_X8_has l dC dI cs ad (b1 + 23) s.heap.size (S1 3) p1 q5 gq5) (cwV 1 hts gX5_isUnderWay_X8_has rfl rfl rfl cd_X8_has ⟨Nat.le_of_ble_eq_true rfl, Nat.le_of_ble_eq_true rfl⟩) hK hP hD hS hA ⟨rfl, rfl, rfl, rfl, rfl, rfl⟩ (jn_nd (is := [4]) hD rfl rfl) 23 7 rfl rfl rfl rfl rfl hl.1 (Nat.le_of_ble_eq_true rfl) dX5_isUnderWay_5 (fun H5 locs5 hP' hD' hS' => ?_)
  replace hS := hS'
  replace hP : va_P (dC, dI) vwCl (fl [(w_X5 ad (b1) cs S1)]) H5 := hP'
  replace hD : va_D A (fl [(w_X5 ad (b1) cs S1)]) := hD'
  clear hP' hD' hS'
  refine lv_if_eq (tgt := 31) hx hb dX5_isUnderWay_8 (by decide) (fun c8 => ?_) (fun c8 => ?_)
  · replace hR := it_t hR c8
    refine lv_iconst (v := 0) hx hb dX5_isUnderWay_31 ic_0 ?_
    replace hR := Option.some.inj hR
    have e9 := hR
    exact W.zret (ty := .boolean) hx hb hr (by decide) (fun t ht hW => ⟨⟨_, (), rfl, e9, by rw [ht]; exact hP, va_K.moved hW.alike hK, hD⟩, hS.F ht⟩) hS.2.2 dX5_isUnderWay_32
  · replace hR := it_f hR c8
    refine lv_aload_n hx hb dX5_isUnderWay_11 rfl (lv_at hl 0 rfl) ?_
    refine va_get (D := (dC, dI)) (ci := 4) (v := .ref (ad (b1 + 23))) (C := RX5) (T := TX5) (N := 6) hx hb hts hinX5 hown hK hP 0 rfl rfl 3 (by decide) hF35 (fun _ h9 => h9) rfl dX5_isUnderWay_12 ?_
    refine va_get (D := (dC, dI)) (ci := 7) (v := .ref (ad (b1 + 23 + 3))) (C := RX8) (T := TX8) (N := 4) hx hb hts hinX8 hown hK hP 23 rfl rfl 3 (by decide) hF177 (fun _ h9 => h9) rfl dX5_isUnderWay_15 ?_
    refine lv_iload_n hx hb dX5_isUnderWay_18 rfl (lv_at hl 1 rfl) ?_
    replace hR := gi_e hR
    obtain ⟨i19, hR⟩ := hR
    refine va_iald hx hb hK hP 26 0 rfl rfl i19 dX5_isUnderWay_19 ?_
    refine lv_aload_n hx hb dX5_isUnderWay_20 rfl (lv_at hl 0 rfl) ?_
    refine va_get (D := (dC, dI)) (ci := 4) (v := .int (S1 4 1 0)) (C := RX5) (T := TX5) (N := 6) hx hb hts hinX5 hown hK hP 0 rfl rfl 5 (by decide) hF62 (fun _ h9 => h9) rfl dX5_isUnderWay_21 ?_
    refine lv_icmp_le (tgt := 31) hx hb dX5_isUnderWay_24 (by decide) (fun c24 => ?_) (fun c24 => ?_)
    · replace hR := it_t hR c24
      refine lv_iconst (v := 0) hx hb dX5_isUnderWay_31 ic_0 ?_
      replace hR := Option.some.inj hR
      have e9 := hR
      exact W.zret (ty := .boolean) hx hb hr (by decide) (fun t ht hW => ⟨⟨_, (), rfl, e9, by rw [ht]; exact hP, va_K.moved hW.alike hK, hD⟩, hS.F ht⟩) hS.2.2 dX5_isUnderWay_32
    · replace hR := it_f hR c24
      refine lv_iconst (v := 1) hx hb dX5_isUnderWay_27 ic_1 ?_
      refine lv_goto (tgt := 32) hx hb dX5_isUnderWay_28 (by decide) ?_
      replace hR := Option.some.inj hR
      have e9 := hR
      exact W.zret (ty := .boolean) hx hb hr (by decide) (fun t ht hW => ⟨⟨_, (), rfl, e9, by rw [ht]; exact hP, va_K.moved hW.alike hK, hD⟩, hS.F ht⟩) hS.2.2 dX5_isUnderWay_32
set_option maxHeartbeats 8000000 in
set_option maxRecDepth 100000 in
theorem k_X5_load (l : Launch) (dC : Nat → ClassId) (dI : Nat → Nat → Nat) (cs : Nat → ClassId) (ad : Nat → Nat) (b1 : Nat) (sz : Nat) (S1 : T3) (p1 : Int32) (p2 : Int32) (r : Int32) (u1 : T3) (hR : fX5_load S1 p1 p2 = some (r, u1)) : Met l yX5_load wsX5_load ({ frames := 2, cells := 0, slots := 0, locals := 44 } : Room) (va_Pc [.ref (ad b1), .int p1, .int p2] (pW dC dI (tyL cs) (fl [(w_X5 ad (b1) cs S1)]) sz)) (QI dC dI (tyL cs) (va_A (fl [(w_X5 ad (b1) cs S1)]) sz) (fl [(w_X5 ad (b1) cs u1)]) r) 0 0 (va_A (fl [(w_X5 ad (b1) cs S1)]) sz) := by
  refine mt_of (own := RX5) (cc := cX5_load) (maxL := 5) (ret := (some .int)) (Qc := fun A => QI dC dI (tyL cs) A (fl [(w_X5 ad (b1) cs u1)]) r) rfl (by decide) rfl (Nat.le_of_ble_eq_true rfl) (fun p e s m below meth c A ls hsz hx hb hr hts hown hlocks hml hA hK hP hD hS hl => ?_)
  subst hsz
  have hl : lv_has ls 5 [(0, .ref (ad b1)), (1, .int p1), (2, .int p2)] := hl
  have hF21 := hts (.fieldLink RX5 21 "DockedBikes$Road" "bicycles" "LDockedBikes$Bicycles;") (List.mem_of_getElem? (i := 2) rfl)
  have hF35 := hts (.fieldLink RX5 35 "DockedBikes$Road" "vans" "LDockedBikes$Vans;") (List.mem_of_getElem? (i := 1) rfl)
  have hF157 := hts (.fieldLink RX5 157 "DockedBikes$Vans" "station" "[I") (List.mem_of_getElem? (i := 3) rfl)
  have hF167 := hts (.fieldLink RX5 167 "DockedBikes$Vans" "room" "[I") (List.mem_of_getElem? (i := 4) rfl)
  have hinX5 : ∀ w ∈ wsX50, w ∈ wsX5_load := by decide +kernel
  have hinX8 : ∀ w ∈ wsX80, w ∈ wsX5_load := by decide +kernel
  refine lv_aload_n hx hb dX5_load_0 rfl (lv_at hl 0 rfl) ?_
  refine va_get (D := (dC, dI)) (ci := 4) (v := .ref (ad (b1 + 23))) (C := RX5) (T := TX5) (N := 6) hx hb hts hinX5 hown hK hP 0 rfl rfl 3 (by decide) hF35 (fun _ h9 => h9) rfl dX5_load_1 ?_
  refine lv_iload_n hx hb dX5_load_4 rfl (lv_at hl 1 rfl) ?_
  replace hR := bd_e hR
  obtain ⟨q5, gq5, hR⟩ := hR
  replace hP : va_P (dC, dI) vwCl (fl [[((ad b1), .inr (4, [.ref (ad (b1 + 1)), .ref (ad (b1 + 6)), .ref (ad (b1 + 13)), .ref (ad (b1 + 23)), .ref (ad (b1 + 27)), .int (S1 4 1 0)]))], (w_X6 ad (b1 + 1) cs (S1 0)), (w_X1 ad (b1 + 6) cs (S1 1)), (w_X4 ad (b1 + 13) cs (S1 2)), (w_X8 ad (b1 + 23) cs (S1 3)), [((ad (b1 + 27)), .inl (cs 0, 3, .inl (S1 4 0)))]]) s.heap := hP
  replace hD : va_D A (fl [[((ad b1), .inr (4, [.ref (ad (b1 + 1)), .ref (ad (b1 + 6)), .ref (ad (b1 + 13)), .ref (ad (b1 + 23)), .ref (ad (b1 + 27)), .int (S1 4 1 0)]))], (w_X6 ad (b1 + 1) cs (S1 0)), (w_X1 ad (b1 + 6) cs (S1 1)), (w_X4 ad (b1 + 13) cs (S1 2)), (w_X8 ad (b1 + 23) cs (S1 3)), [((ad (b1 + 27)), .inl (cs 0, 3, .inl (S1 4 0)))]]) := hD
  refine cl_Vi (As := [.int p1]) (rest := []) (L := [[((ad b1), .inr (4, [.ref (ad (b1 + 1)), .ref (ad (b1 + 6)), .ref (ad (b1 + 13)), .ref (ad (b1 + 23)), .ref (ad (b1 + 27)), .int (S1 4 1 0)]))], (w_X6 ad (b1 + 1) cs (S1 0)), (w_X1 ad (b1 + 6) cs (S1 1)), (w_X4 ad (b1 + 13) cs (S1 2)), (w_X8 ad (b1 + 23) cs (S1 3)), [((ad (b1 + 27)), .inl (cs 0, 3, .inl (S1 4 0)))]]) (L' := [[((ad b1), .inr (4, [.ref (ad (b1 + 1)), .ref (ad (b1 + 6)), .ref (ad (b1 + 13)), .ref (ad (b1 + 23)), .ref (ad (b1 + 27)), .int (S1 4 1 0)]))], (w_X6 ad (b1 + 1) cs (S1 0)), (w_X1 ad (b1 + 6) cs (S1 1)), (w_X4 ad (b1 + 13) cs (S1 2)), (w_X8 ad (b1 + 23) cs (S1 3)), [((ad (b1 + 27)), .inl (cs 0, 3, .inl (S1 4 0)))]]) (Wc := [(w_X8 ad (b1 + 23) cs (S1 3))]) (Wc' := [(w_X8 ad (b1 + 23) cs (S1 3))]) (is := [4]) (js := [0, 1, 2, 3, 5]) ⟨hx, hb, hml, hown, hts⟩ (k_X8_has l dC dI cs ad (b1 + 23) s.heap.size (S1 3) p1 q5 gq5) (cwV 1 hts gX5_load_X8_has rfl rfl rfl cd_X8_has ⟨Nat.le_of_ble_eq_true rfl, Nat.le_of_ble_eq_true rfl⟩) hK hP hD hS hA ⟨rfl, rfl, rfl, rfl, rfl, rfl⟩ (jn_nd (is := [4]) hD rfl rfl) 23 7 rfl rfl rfl rfl rfl hl.1 (Nat.le_of_ble_eq_true rfl) dX5_load_5 (fun H5 locs5 hP' hD' hS' => ?_)
  replace hS := hS'
  replace hP : va_P (dC, dI) vwCl (fl [(w_X5 ad (b1) cs S1)]) H5 := hP'
  replace hD : va_D A (fl [(w_X5 ad (b1) cs S1)]) := hD'
  clear hP' hD' hS'
  refine lv_if_eq (tgt := 22) hx hb dX5_load_8 (by decide) (fun c8 => ?_) (fun c8 => ?_)
  · replace hR := it_t hR c8
    refine lv_iconst (v := (-1)) hx hb dX5_load_22 ic_m1 ?_
    replace hR := Option.some.inj hR
    obtain ⟨e9, hR⟩ := Prod.mk.inj hR
    have eu1 := hR
    replace hP : va_P (dC, dI) vwCl (fl [(w_X5 ad (b1) cs u1)]) H5 := by rw [← eu1]; exact hP
    replace hD : va_D A (fl [(w_X5 ad (b1) cs u1)]) := by rw [← eu1]; exact hD
    exact W.iret hx hb hr (fun t ht hW => ⟨⟨_, (), rfl, e9, by rw [ht]; exact hP, va_K.moved hW.alike hK, hD⟩, hS.F ht⟩) hS.2.2 dX5_load_23
  · replace hR := it_f hR c8
    refine lv_aload_n hx hb dX5_load_11 rfl (lv_at hl 0 rfl) ?_
    refine va_get (D := (dC, dI)) (ci := 4) (v := .ref (ad (b1 + 6))) (C := RX5) (T := TX5) (N := 6) hx hb hts hinX5 hown hK hP 0 rfl rfl 1 (by decide) hF21 (fun _ h9 => h9) rfl dX5_load_12 ?_
    refine lv_iload_n hx hb dX5_load_15 rfl (lv_at hl 2 rfl) ?_
    replace hR := bd_e hR
    obtain ⟨q16, gq16, hR⟩ := hR
    replace hP : va_P (dC, dI) vwCl (fl [[((ad b1), .inr (4, [.ref (ad (b1 + 1)), .ref (ad (b1 + 6)), .ref (ad (b1 + 13)), .ref (ad (b1 + 23)), .ref (ad (b1 + 27)), .int (S1 4 1 0)]))], (w_X6 ad (b1 + 1) cs (S1 0)), (w_X1 ad (b1 + 6) cs (S1 1)), (w_X4 ad (b1 + 13) cs (S1 2)), (w_X8 ad (b1 + 23) cs (S1 3)), [((ad (b1 + 27)), .inl (cs 0, 3, .inl (S1 4 0)))]]) H5 := hP
    replace hD : va_D A (fl [[((ad b1), .inr (4, [.ref (ad (b1 + 1)), .ref (ad (b1 + 6)), .ref (ad (b1 + 13)), .ref (ad (b1 + 23)), .ref (ad (b1 + 27)), .int (S1 4 1 0)]))], (w_X6 ad (b1 + 1) cs (S1 0)), (w_X1 ad (b1 + 6) cs (S1 1)), (w_X4 ad (b1 + 13) cs (S1 2)), (w_X8 ad (b1 + 23) cs (S1 3)), [((ad (b1 + 27)), .inl (cs 0, 3, .inl (S1 4 0)))]]) := hD
    refine cl_Vi (As := [.int p2]) (rest := []) (L := [[((ad b1), .inr (4, [.ref (ad (b1 + 1)), .ref (ad (b1 + 6)), .ref (ad (b1 + 13)), .ref (ad (b1 + 23)), .ref (ad (b1 + 27)), .int (S1 4 1 0)]))], (w_X6 ad (b1 + 1) cs (S1 0)), (w_X1 ad (b1 + 6) cs (S1 1)), (w_X4 ad (b1 + 13) cs (S1 2)), (w_X8 ad (b1 + 23) cs (S1 3)), [((ad (b1 + 27)), .inl (cs 0, 3, .inl (S1 4 0)))]]) (L' := [[((ad b1), .inr (4, [.ref (ad (b1 + 1)), .ref (ad (b1 + 6)), .ref (ad (b1 + 13)), .ref (ad (b1 + 23)), .ref (ad (b1 + 27)), .int (S1 4 1 0)]))], (w_X6 ad (b1 + 1) cs (S1 0)), (w_X1 ad (b1 + 6) cs (S1 1)), (w_X4 ad (b1 + 13) cs (S1 2)), (w_X8 ad (b1 + 23) cs (S1 3)), [((ad (b1 + 27)), .inl (cs 0, 3, .inl (S1 4 0)))]]) (Wc := [(w_X1 ad (b1 + 6) cs (S1 1))]) (Wc' := [(w_X1 ad (b1 + 6) cs (S1 1))]) (is := [2]) (js := [0, 1, 3, 4, 5]) ⟨hx, hb, hml, hown, hts⟩ (k_X1_has l dC dI cs ad (b1 + 6) H5.size (S1 1) p2 q16 gq16) (cwV 1 hts gX5_load_X1_has rfl rfl rfl cd_X1_has ⟨Nat.le_of_ble_eq_true rfl, Nat.le_of_ble_eq_true rfl⟩) hK hP hD hS hA ⟨rfl, rfl, rfl, rfl, rfl, rfl⟩ (jn_nd (is := [2]) hD rfl rfl) 6 0 rfl rfl rfl rfl rfl hl.1 (Nat.le_of_ble_eq_true rfl) dX5_load_16 (fun H16 locs16 hP' hD' hS' => ?_)
    replace hS := hS'
    replace hP : va_P (dC, dI) vwCl (fl [(w_X5 ad (b1) cs S1)]) H16 := hP'
    replace hD : va_D A (fl [(w_X5 ad (b1) cs S1)]) := hD'
    clear hP' hD' hS'
    refine lv_if_ne (tgt := 24) hx hb dX5_load_19 (by decide) (fun c19 => ?_) (fun c19 => ?_)
    · replace hR := it_f hR c19
      refine lv_aload_n hx hb dX5_load_24 rfl (lv_at hl 0 rfl) ?_
      refine va_get (D := (dC, dI)) (ci := 4) (v := .ref (ad (b1 + 6))) (C := RX5) (T := TX5) (N := 6) hx hb hts hinX5 hown hK hP 0 rfl rfl 1 (by decide) hF21 (fun _ h9 => h9) rfl dX5_load_25 ?_
      refine lv_iconst (v := 2) hx hb dX5_load_28 ic_2 ?_
      refine lv_iload_n hx hb dX5_load_29 rfl (lv_at hl 1 rfl) ?_
      replace hR := bd_e hR
      obtain ⟨q30, gq30, hR⟩ := hR
      replace hP : va_P (dC, dI) vwCl (fl [[((ad b1), .inr (4, [.ref (ad (b1 + 1)), .ref (ad (b1 + 6)), .ref (ad (b1 + 13)), .ref (ad (b1 + 23)), .ref (ad (b1 + 27)), .int (S1 4 1 0)]))], (w_X6 ad (b1 + 1) cs (S1 0)), (w_X1 ad (b1 + 6) cs (S1 1)), (w_X4 ad (b1 + 13) cs (S1 2)), (w_X8 ad (b1 + 23) cs (S1 3)), [((ad (b1 + 27)), .inl (cs 0, 3, .inl (S1 4 0)))]]) H16 := hP
      replace hD : va_D A (fl [[((ad b1), .inr (4, [.ref (ad (b1 + 1)), .ref (ad (b1 + 6)), .ref (ad (b1 + 13)), .ref (ad (b1 + 23)), .ref (ad (b1 + 27)), .int (S1 4 1 0)]))], (w_X6 ad (b1 + 1) cs (S1 0)), (w_X1 ad (b1 + 6) cs (S1 1)), (w_X4 ad (b1 + 13) cs (S1 2)), (w_X8 ad (b1 + 23) cs (S1 3)), [((ad (b1 + 27)), .inl (cs 0, 3, .inl (S1 4 0)))]]) := hD
      refine cl_Vi (As := [.int (2 : Int32), .int p1]) (rest := []) (L := [[((ad b1), .inr (4, [.ref (ad (b1 + 1)), .ref (ad (b1 + 6)), .ref (ad (b1 + 13)), .ref (ad (b1 + 23)), .ref (ad (b1 + 27)), .int (S1 4 1 0)]))], (w_X6 ad (b1 + 1) cs (S1 0)), (w_X1 ad (b1 + 6) cs (S1 1)), (w_X4 ad (b1 + 13) cs (S1 2)), (w_X8 ad (b1 + 23) cs (S1 3)), [((ad (b1 + 27)), .inl (cs 0, 3, .inl (S1 4 0)))]]) (L' := [[((ad b1), .inr (4, [.ref (ad (b1 + 1)), .ref (ad (b1 + 6)), .ref (ad (b1 + 13)), .ref (ad (b1 + 23)), .ref (ad (b1 + 27)), .int (S1 4 1 0)]))], (w_X6 ad (b1 + 1) cs (S1 0)), (w_X1 ad (b1 + 6) cs (S1 1)), (w_X4 ad (b1 + 13) cs (S1 2)), (w_X8 ad (b1 + 23) cs (S1 3)), [((ad (b1 + 27)), .inl (cs 0, 3, .inl (S1 4 0)))]]) (Wc := [(w_X1 ad (b1 + 6) cs (S1 1))]) (Wc' := [(w_X1 ad (b1 + 6) cs (S1 1))]) (is := [2]) (js := [0, 1, 3, 4, 5]) ⟨hx, hb, hml, hown, hts⟩ (k_X1_countAt l dC dI cs ad (b1 + 6) H16.size (S1 1) (2 : Int32) p1 q30 gq30) (cwV 2 hts gX5_load_X1_countAt rfl rfl rfl cd_X1_countAt ⟨Nat.le_of_ble_eq_true rfl, Nat.le_of_ble_eq_true rfl⟩) hK hP hD hS hA ⟨rfl, rfl, rfl, rfl, rfl, rfl⟩ (jn_nd (is := [2]) hD rfl rfl) 6 0 rfl rfl rfl rfl rfl hl.1 (Nat.le_of_ble_eq_true rfl) dX5_load_30 (fun H30 locs30 hP' hD' hS' => ?_)
      replace hS := hS'
      replace hP : va_P (dC, dI) vwCl (fl [(w_X5 ad (b1) cs S1)]) H30 := hP'
      replace hD : va_D A (fl [(w_X5 ad (b1) cs S1)]) := hD'
      clear hP' hD' hS'
      refine lv_istore_n (lv' := [(3, .int q30), (0, .ref (ad b1)), (1, .int p1), (2, .int p2)]) hx hb dX5_load_33 rfl hl (Nat.le_of_ble_eq_true rfl) rfl (fun ls hl => ?_)
      refine lv_aload_n hx hb dX5_load_34 rfl (lv_at hl 1 rfl) ?_
      refine va_get (D := (dC, dI)) (ci := 4) (v := .ref (ad (b1 + 6))) (C := RX5) (T := TX5) (N := 6) hx hb hts hinX5 hown hK hP 0 rfl rfl 1 (by decide) hF21 (fun _ h9 => h9) rfl dX5_load_35 ?_
      refine lv_iload_n hx hb dX5_load_38 rfl (lv_at hl 3 rfl) ?_
      refine lv_iconst (v := 0) hx hb dX5_load_39 ic_0 ?_
      refine lv_aload_n hx hb dX5_load_40 rfl (lv_at hl 1 rfl) ?_
      refine va_get (D := (dC, dI)) (ci := 4) (v := .ref (ad (b1 + 23))) (C := RX5) (T := TX5) (N := 6) hx hb hts hinX5 hown hK hP 0 rfl rfl 3 (by decide) hF35 (fun _ h9 => h9) rfl dX5_load_41 ?_
      refine va_get (D := (dC, dI)) (ci := 7) (v := .ref (ad (b1 + 23 + 1))) (C := RX8) (T := TX8) (N := 4) hx hb hts hinX8 hown hK hP 23 rfl rfl 1 (by decide) hF157 (fun _ h9 => h9) rfl dX5_load_44 ?_
      refine lv_iload_n hx hb dX5_load_47 rfl (lv_at hl 2 rfl) ?_
      replace hR := gi_e hR
      obtain ⟨i48, hR⟩ := hR
      refine va_iald hx hb hK hP 24 0 rfl rfl i48 dX5_load_48 ?_
      replace hR := bd_e hR
      obtain ⟨q49, gq49, hR⟩ := hR
      replace hP : va_P (dC, dI) vwCl (fl [[((ad b1), .inr (4, [.ref (ad (b1 + 1)), .ref (ad (b1 + 6)), .ref (ad (b1 + 13)), .ref (ad (b1 + 23)), .ref (ad (b1 + 27)), .int (S1 4 1 0)]))], (w_X6 ad (b1 + 1) cs (S1 0)), (w_X1 ad (b1 + 6) cs (S1 1)), (w_X4 ad (b1 + 13) cs (S1 2)), (w_X8 ad (b1 + 23) cs (S1 3)), [((ad (b1 + 27)), .inl (cs 0, 3, .inl (S1 4 0)))]]) H30 := hP
      replace hD : va_D A (fl [[((ad b1), .inr (4, [.ref (ad (b1 + 1)), .ref (ad (b1 + 6)), .ref (ad (b1 + 13)), .ref (ad (b1 + 23)), .ref (ad (b1 + 27)), .int (S1 4 1 0)]))], (w_X6 ad (b1 + 1) cs (S1 0)), (w_X1 ad (b1 + 6) cs (S1 1)), (w_X4 ad (b1 + 13) cs (S1 2)), (w_X8 ad (b1 + 23) cs (S1 3)), [((ad (b1 + 27)), .inl (cs 0, 3, .inl (S1 4 0)))]]) := hD
      refine cl_Vi (As := [.int p2, .int (0 : Int32), .int (S1 3 0 p1.toNatClampNeg)]) (rest := []) (L := [[((ad b1), .inr (4, [.ref (ad (b1 + 1)), .ref (ad (b1 + 6)), .ref (ad (b1 + 13)), .ref (ad (b1 + 23)), .ref (ad (b1 + 27)), .int (S1 4 1 0)]))], (w_X6 ad (b1 + 1) cs (S1 0)), (w_X1 ad (b1 + 6) cs (S1 1)), (w_X4 ad (b1 + 13) cs (S1 2)), (w_X8 ad (b1 + 23) cs (S1 3)), [((ad (b1 + 27)), .inl (cs 0, 3, .inl (S1 4 0)))]]) (L' := [[((ad b1), .inr (4, [.ref (ad (b1 + 1)), .ref (ad (b1 + 6)), .ref (ad (b1 + 13)), .ref (ad (b1 + 23)), .ref (ad (b1 + 27)), .int (S1 4 1 0)]))], (w_X6 ad (b1 + 1) cs (S1 0)), (w_X1 ad (b1 + 6) cs (S1 1)), (w_X4 ad (b1 + 13) cs (S1 2)), (w_X8 ad (b1 + 23) cs (S1 3)), [((ad (b1 + 27)), .inl (cs 0, 3, .inl (S1 4 0)))]]) (Wc := [(w_X1 ad (b1 + 6) cs (S1 1))]) (Wc' := [(w_X1 ad (b1 + 6) cs (S1 1))]) (is := [2]) (js := [0, 1, 3, 4, 5]) ⟨hx, hb, hml, hown, hts⟩ (k_X1_isAt l dC dI cs ad (b1 + 6) H30.size (S1 1) p2 (0 : Int32) (S1 3 0 p1.toNatClampNeg) q49 gq49) (cwV 3 hts gX5_load_X1_isAt rfl rfl rfl cd_X1_isAt ⟨Nat.le_of_ble_eq_true rfl, Nat.le_of_ble_eq_true rfl⟩) hK hP hD hS hA ⟨rfl, rfl, rfl, rfl, rfl, rfl⟩ (jn_nd (is := [2]) hD rfl rfl) 6 0 rfl rfl rfl rfl rfl hl.1 (Nat.le_of_ble_eq_true rfl) dX5_load_49 (fun H49 locs49 hP' hD' hS' => ?_)
      replace hS := hS'
      replace hP : va_P (dC, dI) vwCl (fl [(w_X5 ad (b1) cs S1)]) H49 := hP'
      replace hD : va_D A (fl [(w_X5 ad (b1) cs S1)]) := hD'
      clear hP' hD' hS'
      refine lv_istore (lv' := [(4, .int q49), (3, .int q30), (0, .ref (ad b1)), (1, .int p1), (2, .int p2)]) hx hb dX5_load_52 hl (Nat.le_of_ble_eq_true rfl) rfl (fun ls hl => ?_)
      refine lv_aload_n hx hb dX5_load_54 rfl (lv_at hl 2 rfl) ?_
      refine lv_iload_n hx hb dX5_load_55 rfl (lv_at hl 3 rfl) ?_
      replace hR := bd_e hR
      obtain ⟨q56, gq56, hR⟩ := hR
      refine cl_Vi (As := [.int p1]) (rest := []) (L := [(w_X5 ad (b1) cs S1)]) (L' := [(w_X5 ad (b1) cs S1)]) (Wc := [(w_X5 ad (b1) cs S1)]) (Wc' := [(w_X5 ad (b1) cs S1)]) (is := [0]) (js := []) ⟨hx, hb, hml, hown, hts⟩ (k_X5_isUnderWay l dC dI cs ad (b1) H49.size S1 p1 q56 gq56) (cwV 1 hts gX5_load_X5_isUnderWay rfl rfl rfl cd_X5_isUnderWay ⟨Nat.le_of_ble_eq_true rfl, Nat.le_of_ble_eq_true rfl⟩) hK hP hD hS hA ⟨rfl, rfl, rfl, rfl, rfl, rfl⟩ (jn_nd (is := [0]) hD rfl rfl) 0 4 rfl rfl rfl rfl rfl hl.1 (Nat.le_of_ble_eq_true rfl) dX5_load_56 (fun H56 locs56 hP' hD' hS' => ?_)
      replace hS := hS'
      replace hP : va_P (dC, dI) vwCl (fl [(w_X5 ad (b1) cs S1)]) H56 := hP'
      replace hD : va_D A (fl [(w_X5 ad (b1) cs S1)]) := hD'
      clear hP' hD' hS'
      refine lv_if_ne (tgt := 80) hx hb dX5_load_59 (by decide) (fun c59 => ?_) (fun c59 => ?_)
      · replace hR := it_f hR c59
        refine lv_bipush (v := (-2)) hx hb dX5_load_80 bp_m2 ?_
        replace hR := Option.some.inj hR
        obtain ⟨e9, hR⟩ := Prod.mk.inj hR
        have eu1 := hR
        replace hP : va_P (dC, dI) vwCl (fl [(w_X5 ad (b1) cs u1)]) H56 := by rw [← eu1]; exact hP
        replace hD : va_D A (fl [(w_X5 ad (b1) cs u1)]) := by rw [← eu1]; exact hD
        exact W.iret hx hb hr (fun t ht hW => ⟨⟨_, (), rfl, e9, by rw [ht]; exact hP, va_K.moved hW.alike hK, hD⟩, hS.F ht⟩) hS.2.2 dX5_load_82
      · replace hR := it_t hR c59
        refine lv_iload_n hx hb dX5_load_62 rfl (lv_at hl 1 rfl) ?_
        refine lv_aload_n hx hb dX5_load_63 rfl (lv_at hl 2 rfl) ?_
        refine va_get (D := (dC, dI)) (ci := 4) (v := .ref (ad (b1 + 23))) (C := RX5) (T := TX5) (N := 6) hx hb hts hinX5 hown hK hP 0 rfl rfl 3 (by decide) hF35 (fun _ h9 => h9) rfl dX5_load_64 ?_
        refine va_get (D := (dC, dI)) (ci := 7) (v := .ref (ad (b1 + 23 + 2))) (C := RX8) (T := TX8) (N := 4) hx hb hts hinX8 hown hK hP 23 rfl rfl 2 (by decide) hF167 (fun _ h9 => h9) rfl dX5_load_67 ?_
        refine lv_iload_n hx hb dX5_load_70 rfl (lv_at hl 3 rfl) ?_
        replace hR := gi_e hR
        obtain ⟨i71, hR⟩ := hR
        refine va_iald hx hb hK hP 25 0 rfl rfl i71 dX5_load_71 ?_
        refine lv_icmp_ge (tgt := 80) hx hb dX5_load_72 (by decide) (fun c72 => ?_) (fun c72 => ?_)
        · replace hR := it_t hR c72
          refine lv_bipush (v := (-2)) hx hb dX5_load_80 bp_m2 ?_
          replace hR := Option.some.inj hR
          obtain ⟨e9, hR⟩ := Prod.mk.inj hR
          have eu1 := hR
          replace hP : va_P (dC, dI) vwCl (fl [(w_X5 ad (b1) cs u1)]) H56 := by rw [← eu1]; exact hP
          replace hD : va_D A (fl [(w_X5 ad (b1) cs u1)]) := by rw [← eu1]; exact hD
          exact W.iret hx hb hr (fun t ht hW => ⟨⟨_, (), rfl, e9, by rw [ht]; exact hP, va_K.moved hW.alike hK, hD⟩, hS.F ht⟩) hS.2.2 dX5_load_82
        · replace hR := it_f hR c72
          refine lv_iload hx hb dX5_load_75 (lv_at hl 0 rfl) ?_
          refine lv_if_ne (tgt := 83) hx hb dX5_load_77 (by decide) (fun c77 => ?_) (fun c77 => ?_)
          · replace hR := it_f hR c77
            refine lv_aload_n hx hb dX5_load_83 rfl (lv_at hl 2 rfl) ?_
            refine va_get (D := (dC, dI)) (ci := 4) (v := .ref (ad (b1 + 6))) (C := RX5) (T := TX5) (N := 6) hx hb hts hinX5 hown hK hP 0 rfl rfl 1 (by decide) hF21 (fun _ h9 => h9) rfl dX5_load_84 ?_
            refine lv_iload_n hx hb dX5_load_87 rfl (lv_at hl 4 rfl) ?_
            refine lv_iconst (v := 2) hx hb dX5_load_88 ic_2 ?_
            refine lv_iload_n hx hb dX5_load_89 rfl (lv_at hl 3 rfl) ?_
            replace hR := bd_e hR
            obtain ⟨q90, gq90, hR⟩ := hR
            replace hP : va_P (dC, dI) vwCl (fl [[((ad b1), .inr (4, [.ref (ad (b1 + 1)), .ref (ad (b1 + 6)), .ref (ad (b1 + 13)), .ref (ad (b1 + 23)), .ref (ad (b1 + 27)), .int (S1 4 1 0)]))], (w_X6 ad (b1 + 1) cs (S1 0)), (w_X1 ad (b1 + 6) cs (S1 1)), (w_X4 ad (b1 + 13) cs (S1 2)), (w_X8 ad (b1 + 23) cs (S1 3)), [((ad (b1 + 27)), .inl (cs 0, 3, .inl (S1 4 0)))]]) H56 := hP
            replace hD : va_D A (fl [[((ad b1), .inr (4, [.ref (ad (b1 + 1)), .ref (ad (b1 + 6)), .ref (ad (b1 + 13)), .ref (ad (b1 + 23)), .ref (ad (b1 + 27)), .int (S1 4 1 0)]))], (w_X6 ad (b1 + 1) cs (S1 0)), (w_X1 ad (b1 + 6) cs (S1 1)), (w_X4 ad (b1 + 13) cs (S1 2)), (w_X8 ad (b1 + 23) cs (S1 3)), [((ad (b1 + 27)), .inl (cs 0, 3, .inl (S1 4 0)))]]) := hD
            refine cl_Vv (As := [.int p2, .int (2 : Int32), .int p1]) (rest := []) (L := [[((ad b1), .inr (4, [.ref (ad (b1 + 1)), .ref (ad (b1 + 6)), .ref (ad (b1 + 13)), .ref (ad (b1 + 23)), .ref (ad (b1 + 27)), .int (S1 4 1 0)]))], (w_X6 ad (b1 + 1) cs (S1 0)), (w_X1 ad (b1 + 6) cs (S1 1)), (w_X4 ad (b1 + 13) cs (S1 2)), (w_X8 ad (b1 + 23) cs (S1 3)), [((ad (b1 + 27)), .inl (cs 0, 3, .inl (S1 4 0)))]]) (L' := [[((ad b1), .inr (4, [.ref (ad (b1 + 1)), .ref (ad (b1 + 6)), .ref (ad (b1 + 13)), .ref (ad (b1 + 23)), .ref (ad (b1 + 27)), .int ((sU S1 1 q90) 4 1 0)]))], (w_X6 ad (b1 + 1) cs ((sU S1 1 q90) 0)), (w_X1 ad (b1 + 6) cs ((sU S1 1 q90) 1)), (w_X4 ad (b1 + 13) cs ((sU S1 1 q90) 2)), (w_X8 ad (b1 + 23) cs ((sU S1 1 q90) 3)), [((ad (b1 + 27)), .inl (cs 0, 3, .inl ((sU S1 1 q90) 4 0)))]]) (Wc := [(w_X1 ad (b1 + 6) cs (S1 1))]) (Wc' := [(w_X1 ad (b1 + 6) cs q90)]) (is := [2]) (js := [0, 1, 3, 4, 5]) ⟨hx, hb, hml, hown, hts⟩ (k_X1_bring l dC dI cs ad (b1 + 6) H56.size (S1 1) p2 (2 : Int32) p1 q90 gq90) (cwV 3 hts gX5_load_X1_bring rfl rfl rfl cd_X1_bring ⟨Nat.le_of_ble_eq_true rfl, Nat.le_of_ble_eq_true rfl⟩) hK hP hD hS hA ⟨rfl, rfl, rfl, rfl, rfl, rfl⟩ (jn_nd (is := [2]) hD rfl rfl) 6 0 rfl rfl rfl rfl rfl hl.1 (Nat.le_of_ble_eq_true rfl) dX5_load_90 (fun H90 locs90 hP' hD' hS' => ?_)
            replace hS := hS'
            have hP' : va_P (dC, dI) vwCl (fl [(w_X5 ad (b1) cs (sU S1 1 q90))]) H90 := hP'
            have hD' : va_D A (fl [(w_X5 ad (b1) cs (sU S1 1 q90))]) := hD'
            replace hR := bn_e hR
            obtain ⟨S1_90, eS1_90, hR⟩ := hR
            replace hP : va_P (dC, dI) vwCl (fl [(w_X5 ad (b1) cs S1_90)]) H90 := by rw [eS1_90]; exact hP'
            replace hD : va_D A (fl [(w_X5 ad (b1) cs S1_90)]) := by rw [eS1_90]; exact hD'
            clear hP' hD' hS'
            refine lv_iload_n hx hb dX5_load_93 rfl (lv_at hl 1 rfl) ?_
            refine lv_iconst (v := 1) hx hb dX5_load_94 ic_1 ?_
            refine lv_iadd hx hb dX5_load_95 ?_
            replace hR := Option.some.inj hR
            obtain ⟨e9, hR⟩ := Prod.mk.inj hR
            have eu1 := hR
            replace hP : va_P (dC, dI) vwCl (fl [(w_X5 ad (b1) cs u1)]) H90 := by rw [← eu1]; exact hP
            replace hD : va_D A (fl [(w_X5 ad (b1) cs u1)]) := by rw [← eu1]; exact hD
            exact W.iret hx hb hr (fun t ht hW => ⟨⟨_, (), rfl, e9, by rw [ht]; exact hP, va_K.moved hW.alike hK, hD⟩, hS.F ht⟩) hS.2.2 dX5_load_96
          · replace hR := it_t hR c77
            refine lv_bipush (v := (-2)) hx hb dX5_load_80 bp_m2 ?_
            replace hR := Option.some.inj hR
            obtain ⟨e9, hR⟩ := Prod.mk.inj hR
            have eu1 := hR
            replace hP : va_P (dC, dI) vwCl (fl [(w_X5 ad (b1) cs u1)]) H56 := by rw [← eu1]; exact hP
            replace hD : va_D A (fl [(w_X5 ad (b1) cs u1)]) := by rw [← eu1]; exact hD
            exact W.iret hx hb hr (fun t ht hW => ⟨⟨_, (), rfl, e9, by rw [ht]; exact hP, va_K.moved hW.alike hK, hD⟩, hS.F ht⟩) hS.2.2 dX5_load_82
    · replace hR := it_t hR c19
      refine lv_iconst (v := (-1)) hx hb dX5_load_22 ic_m1 ?_
      replace hR := Option.some.inj hR
      obtain ⟨e9, hR⟩ := Prod.mk.inj hR
      have eu1 := hR
      replace hP : va_P (dC, dI) vwCl (fl [(w_X5 ad (b1) cs u1)]) H16 := by rw [← eu1]; exact hP
      replace hD : va_D A (fl [(w_X5 ad (b1) cs u1)]) := by rw [← eu1]; exact hD
      exact W.iret hx hb hr (fun t ht hW => ⟨⟨_, (), rfl, e9, by rw [ht]; exact hP, va_K.moved hW.alike hK, hD⟩, hS.F ht⟩) hS.2.2 dX5_load_23
set_option maxHeartbeats 8000000 in
set_option maxRecDepth 100000 in
theorem k_X5_canHandOut (l : Launch) (dC : Nat → ClassId) (dI : Nat → Nat → Nat) (cs : Nat → ClassId) (ad : Nat → Nat) (b1 : Nat) (sz : Nat) (S1 : T3) (p1 : Int32) (p2 : Int32) (r : Int32) (hR : fX5_canHandOut S1 p1 p2 = some r) : Met l yX5_canHandOut wsX5_canHandOut ({ frames := 2, cells := 0, slots := 0, locals := 44 } : Room) (va_Pc [.ref (ad b1), .int p1, .int p2] (pW dC dI (tyL cs) (fl [(w_X5 ad (b1) cs S1)]) sz)) (QI dC dI (tyL cs) (va_A (fl [(w_X5 ad (b1) cs S1)]) sz) (fl [(w_X5 ad (b1) cs S1)]) r) 0 0 (va_A (fl [(w_X5 ad (b1) cs S1)]) sz) := by
  refine mt_of (own := RX5) (cc := cX5_canHandOut) (maxL := 3) (ret := (some .boolean)) (Qc := fun A => QI dC dI (tyL cs) A (fl [(w_X5 ad (b1) cs S1)]) r) rfl (by decide) rfl (Nat.le_of_ble_eq_true rfl) (fun p e s m below meth c A ls hsz hx hb hr hts hown hlocks hml hA hK hP hD hS hl => ?_)
  subst hsz
  have hl : lv_has ls 3 [(0, .ref (ad b1)), (1, .int p1), (2, .int p2)] := hl
  have hF21 := hts (.fieldLink RX5 21 "DockedBikes$Road" "bicycles" "LDockedBikes$Bicycles;") (List.mem_of_getElem? (i := 1) rfl)
  have hinX5 : ∀ w ∈ wsX50, w ∈ wsX5_canHandOut := by decide +kernel
  refine lv_aload_n hx hb dX5_canHandOut_0 rfl (lv_at hl 0 rfl) ?_
  refine lv_iload_n hx hb dX5_canHandOut_1 rfl (lv_at hl 1 rfl) ?_
  replace hR := bd_e hR
  obtain ⟨q2, gq2, hR⟩ := hR
  refine cl_Vi (As := [.int p1]) (rest := []) (L := [(w_X5 ad (b1) cs S1)]) (L' := [(w_X5 ad (b1) cs S1)]) (Wc := [(w_X5 ad (b1) cs S1)]) (Wc' := [(w_X5 ad (b1) cs S1)]) (is := [0]) (js := []) ⟨hx, hb, hml, hown, hts⟩ (k_X5_isUnderWay l dC dI cs ad (b1) s.heap.size S1 p1 q2 gq2) (cwV 1 hts gX5_canHandOut_X5_isUnderWay rfl rfl rfl cd_X5_isUnderWay ⟨Nat.le_of_ble_eq_true rfl, Nat.le_of_ble_eq_true rfl⟩) hK hP hD hS hA ⟨rfl, rfl, rfl, rfl, rfl, rfl⟩ (jn_nd (is := [0]) hD rfl rfl) 0 4 rfl rfl rfl rfl rfl hl.1 (Nat.le_of_ble_eq_true rfl) dX5_canHandOut_2 (fun H2 locs2 hP' hD' hS' => ?_)
  replace hS := hS'
  replace hP : va_P (dC, dI) vwCl (fl [(w_X5 ad (b1) cs S1)]) H2 := hP'
  replace hD : va_D A (fl [(w_X5 ad (b1) cs S1)]) := hD'
  clear hP' hD' hS'
  refine lv_if_ne (tgt := 25) hx hb dX5_canHandOut_5 (by decide) (fun c5 => ?_) (fun c5 => ?_)
  · replace hR := it_f hR c5
    refine lv_iconst (v := 0) hx hb dX5_canHandOut_25 ic_0 ?_
    replace hR := Option.some.inj hR
    have e9 := hR
    exact W.zret (ty := .boolean) hx hb hr (by decide) (fun t ht hW => ⟨⟨_, (), rfl, e9, by rw [ht]; exact hP, va_K.moved hW.alike hK, hD⟩, hS.F ht⟩) hS.2.2 dX5_canHandOut_26
  · replace hR := it_t hR c5
    refine lv_aload_n hx hb dX5_canHandOut_8 rfl (lv_at hl 0 rfl) ?_
    refine va_get (D := (dC, dI)) (ci := 4) (v := .ref (ad (b1 + 6))) (C := RX5) (T := TX5) (N := 6) hx hb hts hinX5 hown hK hP 0 rfl rfl 1 (by decide) hF21 (fun _ h9 => h9) rfl dX5_canHandOut_9 ?_
    refine lv_iload_n hx hb dX5_canHandOut_12 rfl (lv_at hl 2 rfl) ?_
    refine lv_iconst (v := 2) hx hb dX5_canHandOut_13 ic_2 ?_
    refine lv_iload_n hx hb dX5_canHandOut_14 rfl (lv_at hl 1 rfl) ?_
    replace hR := bd_e hR
    obtain ⟨q15, gq15, hR⟩ := hR
    replace hP : va_P (dC, dI) vwCl (fl [[((ad b1), .inr (4, [.ref (ad (b1 + 1)), .ref (ad (b1 + 6)), .ref (ad (b1 + 13)), .ref (ad (b1 + 23)), .ref (ad (b1 + 27)), .int (S1 4 1 0)]))], (w_X6 ad (b1 + 1) cs (S1 0)), (w_X1 ad (b1 + 6) cs (S1 1)), (w_X4 ad (b1 + 13) cs (S1 2)), (w_X8 ad (b1 + 23) cs (S1 3)), [((ad (b1 + 27)), .inl (cs 0, 3, .inl (S1 4 0)))]]) H2 := hP
    replace hD : va_D A (fl [[((ad b1), .inr (4, [.ref (ad (b1 + 1)), .ref (ad (b1 + 6)), .ref (ad (b1 + 13)), .ref (ad (b1 + 23)), .ref (ad (b1 + 27)), .int (S1 4 1 0)]))], (w_X6 ad (b1 + 1) cs (S1 0)), (w_X1 ad (b1 + 6) cs (S1 1)), (w_X4 ad (b1 + 13) cs (S1 2)), (w_X8 ad (b1 + 23) cs (S1 3)), [((ad (b1 + 27)), .inl (cs 0, 3, .inl (S1 4 0)))]]) := hD
    refine cl_Vi (As := [.int p2, .int (2 : Int32), .int p1]) (rest := []) (L := [[((ad b1), .inr (4, [.ref (ad (b1 + 1)), .ref (ad (b1 + 6)), .ref (ad (b1 + 13)), .ref (ad (b1 + 23)), .ref (ad (b1 + 27)), .int (S1 4 1 0)]))], (w_X6 ad (b1 + 1) cs (S1 0)), (w_X1 ad (b1 + 6) cs (S1 1)), (w_X4 ad (b1 + 13) cs (S1 2)), (w_X8 ad (b1 + 23) cs (S1 3)), [((ad (b1 + 27)), .inl (cs 0, 3, .inl (S1 4 0)))]]) (L' := [[((ad b1), .inr (4, [.ref (ad (b1 + 1)), .ref (ad (b1 + 6)), .ref (ad (b1 + 13)), .ref (ad (b1 + 23)), .ref (ad (b1 + 27)), .int (S1 4 1 0)]))], (w_X6 ad (b1 + 1) cs (S1 0)), (w_X1 ad (b1 + 6) cs (S1 1)), (w_X4 ad (b1 + 13) cs (S1 2)), (w_X8 ad (b1 + 23) cs (S1 3)), [((ad (b1 + 27)), .inl (cs 0, 3, .inl (S1 4 0)))]]) (Wc := [(w_X1 ad (b1 + 6) cs (S1 1))]) (Wc' := [(w_X1 ad (b1 + 6) cs (S1 1))]) (is := [2]) (js := [0, 1, 3, 4, 5]) ⟨hx, hb, hml, hown, hts⟩ (k_X1_isAt l dC dI cs ad (b1 + 6) H2.size (S1 1) p2 (2 : Int32) p1 q15 gq15) (cwV 3 hts gX5_canHandOut_X1_isAt rfl rfl rfl cd_X1_isAt ⟨Nat.le_of_ble_eq_true rfl, Nat.le_of_ble_eq_true rfl⟩) hK hP hD hS hA ⟨rfl, rfl, rfl, rfl, rfl, rfl⟩ (jn_nd (is := [2]) hD rfl rfl) 6 0 rfl rfl rfl rfl rfl hl.1 (Nat.le_of_ble_eq_true rfl) dX5_canHandOut_15 (fun H15 locs15 hP' hD' hS' => ?_)
    replace hS := hS'
    replace hP : va_P (dC, dI) vwCl (fl [(w_X5 ad (b1) cs S1)]) H15 := hP'
    replace hD : va_D A (fl [(w_X5 ad (b1) cs S1)]) := hD'
    clear hP' hD' hS'
    refine lv_if_eq (tgt := 25) hx hb dX5_canHandOut_18 (by decide) (fun c18 => ?_) (fun c18 => ?_)
    · replace hR := it_t hR c18
      refine lv_iconst (v := 0) hx hb dX5_canHandOut_25 ic_0 ?_
      replace hR := Option.some.inj hR
      have e9 := hR
      exact W.zret (ty := .boolean) hx hb hr (by decide) (fun t ht hW => ⟨⟨_, (), rfl, e9, by rw [ht]; exact hP, va_K.moved hW.alike hK, hD⟩, hS.F ht⟩) hS.2.2 dX5_canHandOut_26
    · replace hR := it_f hR c18
      refine lv_iconst (v := 1) hx hb dX5_canHandOut_21 ic_1 ?_
      refine lv_goto (tgt := 26) hx hb dX5_canHandOut_22 (by decide) ?_
      replace hR := Option.some.inj hR
      have e9 := hR
      exact W.zret (ty := .boolean) hx hb hr (by decide) (fun t ht hW => ⟨⟨_, (), rfl, e9, by rw [ht]; exact hP, va_K.moved hW.alike hK, hD⟩, hS.F ht⟩) hS.2.2 dX5_canHandOut_26
set_option maxHeartbeats 8000000 in
set_option maxRecDepth 100000 in
theorem k_X5_unload (l : Launch) (dC : Nat → ClassId) (dI : Nat → Nat → Nat) (cs : Nat → ClassId) (ad : Nat → Nat) (b1 : Nat) (sz : Nat) (S1 : T3) (p1 : Int32) (p2 : Int32) (r : Int32) (u1 : T3) (hR : fX5_unload S1 p1 p2 = some (r, u1)) : Met l yX5_unload wsX5_unload ({ frames := 3, cells := 0, slots := 0, locals := 66 } : Room) (va_Pc [.ref (ad b1), .int p1, .int p2] (pW dC dI (tyL cs) (fl [(w_X5 ad (b1) cs S1)]) sz)) (QI dC dI (tyL cs) (va_A (fl [(w_X5 ad (b1) cs S1)]) sz) (fl [(w_X5 ad (b1) cs u1)]) r) 0 0 (va_A (fl [(w_X5 ad (b1) cs S1)]) sz) := by
  refine mt_of (own := RX5) (cc := cX5_unload) (maxL := 4) (ret := (some .int)) (Qc := fun A => QI dC dI (tyL cs) A (fl [(w_X5 ad (b1) cs u1)]) r) rfl (by decide) rfl (Nat.le_of_ble_eq_true rfl) (fun p e s m below meth c A ls hsz hx hb hr hts hown hlocks hml hA hK hP hD hS hl => ?_)
  subst hsz
  have hl : lv_has ls 4 [(0, .ref (ad b1)), (1, .int p1), (2, .int p2)] := hl
  have hF21 := hts (.fieldLink RX5 21 "DockedBikes$Road" "bicycles" "LDockedBikes$Bicycles;") (List.mem_of_getElem? (i := 2) rfl)
  have hF35 := hts (.fieldLink RX5 35 "DockedBikes$Road" "vans" "LDockedBikes$Vans;") (List.mem_of_getElem? (i := 1) rfl)
  have hF157 := hts (.fieldLink RX5 157 "DockedBikes$Vans" "station" "[I") (List.mem_of_getElem? (i := 3) rfl)
  have hinX5 : ∀ w ∈ wsX50, w ∈ wsX5_unload := by decide +kernel
  have hinX8 : ∀ w ∈ wsX80, w ∈ wsX5_unload := by decide +kernel
  refine lv_aload_n hx hb dX5_unload_0 rfl (lv_at hl 0 rfl) ?_
  refine va_get (D := (dC, dI)) (ci := 4) (v := .ref (ad (b1 + 23))) (C := RX5) (T := TX5) (N := 6) hx hb hts hinX5 hown hK hP 0 rfl rfl 3 (by decide) hF35 (fun _ h9 => h9) rfl dX5_unload_1 ?_
  refine lv_iload_n hx hb dX5_unload_4 rfl (lv_at hl 1 rfl) ?_
  replace hR := bd_e hR
  obtain ⟨q5, gq5, hR⟩ := hR
  replace hP : va_P (dC, dI) vwCl (fl [[((ad b1), .inr (4, [.ref (ad (b1 + 1)), .ref (ad (b1 + 6)), .ref (ad (b1 + 13)), .ref (ad (b1 + 23)), .ref (ad (b1 + 27)), .int (S1 4 1 0)]))], (w_X6 ad (b1 + 1) cs (S1 0)), (w_X1 ad (b1 + 6) cs (S1 1)), (w_X4 ad (b1 + 13) cs (S1 2)), (w_X8 ad (b1 + 23) cs (S1 3)), [((ad (b1 + 27)), .inl (cs 0, 3, .inl (S1 4 0)))]]) s.heap := hP
  replace hD : va_D A (fl [[((ad b1), .inr (4, [.ref (ad (b1 + 1)), .ref (ad (b1 + 6)), .ref (ad (b1 + 13)), .ref (ad (b1 + 23)), .ref (ad (b1 + 27)), .int (S1 4 1 0)]))], (w_X6 ad (b1 + 1) cs (S1 0)), (w_X1 ad (b1 + 6) cs (S1 1)), (w_X4 ad (b1 + 13) cs (S1 2)), (w_X8 ad (b1 + 23) cs (S1 3)), [((ad (b1 + 27)), .inl (cs 0, 3, .inl (S1 4 0)))]]) := hD
  refine cl_Vi (As := [.int p1]) (rest := []) (L := [[((ad b1), .inr (4, [.ref (ad (b1 + 1)), .ref (ad (b1 + 6)), .ref (ad (b1 + 13)), .ref (ad (b1 + 23)), .ref (ad (b1 + 27)), .int (S1 4 1 0)]))], (w_X6 ad (b1 + 1) cs (S1 0)), (w_X1 ad (b1 + 6) cs (S1 1)), (w_X4 ad (b1 + 13) cs (S1 2)), (w_X8 ad (b1 + 23) cs (S1 3)), [((ad (b1 + 27)), .inl (cs 0, 3, .inl (S1 4 0)))]]) (L' := [[((ad b1), .inr (4, [.ref (ad (b1 + 1)), .ref (ad (b1 + 6)), .ref (ad (b1 + 13)), .ref (ad (b1 + 23)), .ref (ad (b1 + 27)), .int (S1 4 1 0)]))], (w_X6 ad (b1 + 1) cs (S1 0)), (w_X1 ad (b1 + 6) cs (S1 1)), (w_X4 ad (b1 + 13) cs (S1 2)), (w_X8 ad (b1 + 23) cs (S1 3)), [((ad (b1 + 27)), .inl (cs 0, 3, .inl (S1 4 0)))]]) (Wc := [(w_X8 ad (b1 + 23) cs (S1 3))]) (Wc' := [(w_X8 ad (b1 + 23) cs (S1 3))]) (is := [4]) (js := [0, 1, 2, 3, 5]) ⟨hx, hb, hml, hown, hts⟩ (k_X8_has l dC dI cs ad (b1 + 23) s.heap.size (S1 3) p1 q5 gq5) (cwV 1 hts gX5_unload_X8_has rfl rfl rfl cd_X8_has ⟨Nat.le_of_ble_eq_true rfl, Nat.le_of_ble_eq_true rfl⟩) hK hP hD hS hA ⟨rfl, rfl, rfl, rfl, rfl, rfl⟩ (jn_nd (is := [4]) hD rfl rfl) 23 7 rfl rfl rfl rfl rfl hl.1 (Nat.le_of_ble_eq_true rfl) dX5_unload_5 (fun H5 locs5 hP' hD' hS' => ?_)
  replace hS := hS'
  replace hP : va_P (dC, dI) vwCl (fl [(w_X5 ad (b1) cs S1)]) H5 := hP'
  replace hD : va_D A (fl [(w_X5 ad (b1) cs S1)]) := hD'
  clear hP' hD' hS'
  refine lv_if_eq (tgt := 22) hx hb dX5_unload_8 (by decide) (fun c8 => ?_) (fun c8 => ?_)
  · replace hR := it_t hR c8
    refine lv_iconst (v := (-1)) hx hb dX5_unload_22 ic_m1 ?_
    replace hR := Option.some.inj hR
    obtain ⟨e9, hR⟩ := Prod.mk.inj hR
    have eu1 := hR
    replace hP : va_P (dC, dI) vwCl (fl [(w_X5 ad (b1) cs u1)]) H5 := by rw [← eu1]; exact hP
    replace hD : va_D A (fl [(w_X5 ad (b1) cs u1)]) := by rw [← eu1]; exact hD
    exact W.iret hx hb hr (fun t ht hW => ⟨⟨_, (), rfl, e9, by rw [ht]; exact hP, va_K.moved hW.alike hK, hD⟩, hS.F ht⟩) hS.2.2 dX5_unload_23
  · replace hR := it_f hR c8
    refine lv_aload_n hx hb dX5_unload_11 rfl (lv_at hl 0 rfl) ?_
    refine va_get (D := (dC, dI)) (ci := 4) (v := .ref (ad (b1 + 6))) (C := RX5) (T := TX5) (N := 6) hx hb hts hinX5 hown hK hP 0 rfl rfl 1 (by decide) hF21 (fun _ h9 => h9) rfl dX5_unload_12 ?_
    refine lv_iload_n hx hb dX5_unload_15 rfl (lv_at hl 2 rfl) ?_
    replace hR := bd_e hR
    obtain ⟨q16, gq16, hR⟩ := hR
    replace hP : va_P (dC, dI) vwCl (fl [[((ad b1), .inr (4, [.ref (ad (b1 + 1)), .ref (ad (b1 + 6)), .ref (ad (b1 + 13)), .ref (ad (b1 + 23)), .ref (ad (b1 + 27)), .int (S1 4 1 0)]))], (w_X6 ad (b1 + 1) cs (S1 0)), (w_X1 ad (b1 + 6) cs (S1 1)), (w_X4 ad (b1 + 13) cs (S1 2)), (w_X8 ad (b1 + 23) cs (S1 3)), [((ad (b1 + 27)), .inl (cs 0, 3, .inl (S1 4 0)))]]) H5 := hP
    replace hD : va_D A (fl [[((ad b1), .inr (4, [.ref (ad (b1 + 1)), .ref (ad (b1 + 6)), .ref (ad (b1 + 13)), .ref (ad (b1 + 23)), .ref (ad (b1 + 27)), .int (S1 4 1 0)]))], (w_X6 ad (b1 + 1) cs (S1 0)), (w_X1 ad (b1 + 6) cs (S1 1)), (w_X4 ad (b1 + 13) cs (S1 2)), (w_X8 ad (b1 + 23) cs (S1 3)), [((ad (b1 + 27)), .inl (cs 0, 3, .inl (S1 4 0)))]]) := hD
    refine cl_Vi (As := [.int p2]) (rest := []) (L := [[((ad b1), .inr (4, [.ref (ad (b1 + 1)), .ref (ad (b1 + 6)), .ref (ad (b1 + 13)), .ref (ad (b1 + 23)), .ref (ad (b1 + 27)), .int (S1 4 1 0)]))], (w_X6 ad (b1 + 1) cs (S1 0)), (w_X1 ad (b1 + 6) cs (S1 1)), (w_X4 ad (b1 + 13) cs (S1 2)), (w_X8 ad (b1 + 23) cs (S1 3)), [((ad (b1 + 27)), .inl (cs 0, 3, .inl (S1 4 0)))]]) (L' := [[((ad b1), .inr (4, [.ref (ad (b1 + 1)), .ref (ad (b1 + 6)), .ref (ad (b1 + 13)), .ref (ad (b1 + 23)), .ref (ad (b1 + 27)), .int (S1 4 1 0)]))], (w_X6 ad (b1 + 1) cs (S1 0)), (w_X1 ad (b1 + 6) cs (S1 1)), (w_X4 ad (b1 + 13) cs (S1 2)), (w_X8 ad (b1 + 23) cs (S1 3)), [((ad (b1 + 27)), .inl (cs 0, 3, .inl (S1 4 0)))]]) (Wc := [(w_X1 ad (b1 + 6) cs (S1 1))]) (Wc' := [(w_X1 ad (b1 + 6) cs (S1 1))]) (is := [2]) (js := [0, 1, 3, 4, 5]) ⟨hx, hb, hml, hown, hts⟩ (k_X1_has l dC dI cs ad (b1 + 6) H5.size (S1 1) p2 q16 gq16) (cwV 1 hts gX5_unload_X1_has rfl rfl rfl cd_X1_has ⟨Nat.le_of_ble_eq_true rfl, Nat.le_of_ble_eq_true rfl⟩) hK hP hD hS hA ⟨rfl, rfl, rfl, rfl, rfl, rfl⟩ (jn_nd (is := [2]) hD rfl rfl) 6 0 rfl rfl rfl rfl rfl hl.1 (Nat.le_of_ble_eq_true rfl) dX5_unload_16 (fun H16 locs16 hP' hD' hS' => ?_)
    replace hS := hS'
    replace hP : va_P (dC, dI) vwCl (fl [(w_X5 ad (b1) cs S1)]) H16 := hP'
    replace hD : va_D A (fl [(w_X5 ad (b1) cs S1)]) := hD'
    clear hP' hD' hS'
    refine lv_if_ne (tgt := 24) hx hb dX5_unload_19 (by decide) (fun c19 => ?_) (fun c19 => ?_)
    · replace hR := it_f hR c19
      refine lv_aload_n hx hb dX5_unload_24 rfl (lv_at hl 0 rfl) ?_
      refine va_get (D := (dC, dI)) (ci := 4) (v := .ref (ad (b1 + 23))) (C := RX5) (T := TX5) (N := 6) hx hb hts hinX5 hown hK hP 0 rfl rfl 3 (by decide) hF35 (fun _ h9 => h9) rfl dX5_unload_25 ?_
      refine va_get (D := (dC, dI)) (ci := 7) (v := .ref (ad (b1 + 23 + 1))) (C := RX8) (T := TX8) (N := 4) hx hb hts hinX8 hown hK hP 23 rfl rfl 1 (by decide) hF157 (fun _ h9 => h9) rfl dX5_unload_28 ?_
      refine lv_iload_n hx hb dX5_unload_31 rfl (lv_at hl 1 rfl) ?_
      replace hR := gi_e hR
      obtain ⟨i32, hR⟩ := hR
      refine va_iald hx hb hK hP 24 0 rfl rfl i32 dX5_unload_32 ?_
      refine lv_istore_n (lv' := [(3, .int (S1 3 0 p1.toNatClampNeg)), (0, .ref (ad b1)), (1, .int p1), (2, .int p2)]) hx hb dX5_unload_33 rfl hl (Nat.le_of_ble_eq_true rfl) rfl (fun ls hl => ?_)
      refine lv_aload_n hx hb dX5_unload_34 rfl (lv_at hl 1 rfl) ?_
      refine lv_iload_n hx hb dX5_unload_35 rfl (lv_at hl 2 rfl) ?_
      refine lv_iload_n hx hb dX5_unload_36 rfl (lv_at hl 3 rfl) ?_
      replace hR := bd_e hR
      obtain ⟨q37, gq37, hR⟩ := hR
      refine cl_Vi (As := [.int p1, .int p2]) (rest := []) (L := [(w_X5 ad (b1) cs S1)]) (L' := [(w_X5 ad (b1) cs S1)]) (Wc := [(w_X5 ad (b1) cs S1)]) (Wc' := [(w_X5 ad (b1) cs S1)]) (is := [0]) (js := []) ⟨hx, hb, hml, hown, hts⟩ (k_X5_canHandOut l dC dI cs ad (b1) H16.size S1 p1 p2 q37 gq37) (cwV 2 hts gX5_unload_X5_canHandOut rfl rfl rfl cd_X5_canHandOut ⟨Nat.le_of_ble_eq_true rfl, Nat.le_of_ble_eq_true rfl⟩) hK hP hD hS hA ⟨rfl, rfl, rfl, rfl, rfl, rfl⟩ (jn_nd (is := [0]) hD rfl rfl) 0 4 rfl rfl rfl rfl rfl hl.1 (Nat.le_of_ble_eq_true rfl) dX5_unload_37 (fun H37 locs37 hP' hD' hS' => ?_)
      replace hS := hS'
      replace hP : va_P (dC, dI) vwCl (fl [(w_X5 ad (b1) cs S1)]) H37 := hP'
      replace hD : va_D A (fl [(w_X5 ad (b1) cs S1)]) := hD'
      clear hP' hD' hS'
      refine lv_if_eq (tgt := 51) hx hb dX5_unload_40 (by decide) (fun c40 => ?_) (fun c40 => ?_)
      · replace hR := it_t hR c40
        refine lv_bipush (v := (-2)) hx hb dX5_unload_51 bp_m2 ?_
        replace hR := Option.some.inj hR
        obtain ⟨e9, hR⟩ := Prod.mk.inj hR
        have eu1 := hR
        replace hP : va_P (dC, dI) vwCl (fl [(w_X5 ad (b1) cs u1)]) H37 := by rw [← eu1]; exact hP
        replace hD : va_D A (fl [(w_X5 ad (b1) cs u1)]) := by rw [← eu1]; exact hD
        exact W.iret hx hb hr (fun t ht hW => ⟨⟨_, (), rfl, e9, by rw [ht]; exact hP, va_K.moved hW.alike hK, hD⟩, hS.F ht⟩) hS.2.2 dX5_unload_53
      · replace hR := it_f hR c40
        refine lv_aload_n hx hb dX5_unload_43 rfl (lv_at hl 1 rfl) ?_
        refine lv_iload_n hx hb dX5_unload_44 rfl (lv_at hl 0 rfl) ?_
        replace hR := bd_e hR
        obtain ⟨q45, gq45, hR⟩ := hR
        refine cl_Vi (As := [.int (S1 3 0 p1.toNatClampNeg)]) (rest := []) (L := [(w_X5 ad (b1) cs S1)]) (L' := [(w_X5 ad (b1) cs S1)]) (Wc := [(w_X5 ad (b1) cs S1)]) (Wc' := [(w_X5 ad (b1) cs S1)]) (is := [0]) (js := []) ⟨hx, hb, hml, hown, hts⟩ (k_X5_hasFreeDock l dC dI cs ad (b1) H37.size S1 (S1 3 0 p1.toNatClampNeg) q45 gq45) (cwV 1 hts gX5_unload_X5_hasFreeDock rfl rfl rfl cd_X5_hasFreeDock ⟨Nat.le_of_ble_eq_true rfl, Nat.le_of_ble_eq_true rfl⟩) hK hP hD hS hA ⟨rfl, rfl, rfl, rfl, rfl, rfl⟩ (jn_nd (is := [0]) hD rfl rfl) 0 4 rfl rfl rfl rfl rfl hl.1 (Nat.le_of_ble_eq_true rfl) dX5_unload_45 (fun H45 locs45 hP' hD' hS' => ?_)
        replace hS := hS'
        replace hP : va_P (dC, dI) vwCl (fl [(w_X5 ad (b1) cs S1)]) H45 := hP'
        replace hD : va_D A (fl [(w_X5 ad (b1) cs S1)]) := hD'
        clear hP' hD' hS'
        refine lv_if_ne (tgt := 54) hx hb dX5_unload_48 (by decide) (fun c48 => ?_) (fun c48 => ?_)
        · replace hR := it_f hR c48
          refine lv_aload_n hx hb dX5_unload_54 rfl (lv_at hl 1 rfl) ?_
          refine va_get (D := (dC, dI)) (ci := 4) (v := .ref (ad (b1 + 6))) (C := RX5) (T := TX5) (N := 6) hx hb hts hinX5 hown hK hP 0 rfl rfl 1 (by decide) hF21 (fun _ h9 => h9) rfl dX5_unload_55 ?_
          refine lv_iload_n hx hb dX5_unload_58 rfl (lv_at hl 3 rfl) ?_
          refine lv_iconst (v := 0) hx hb dX5_unload_59 ic_0 ?_
          refine lv_iload_n hx hb dX5_unload_60 rfl (lv_at hl 0 rfl) ?_
          replace hR := bd_e hR
          obtain ⟨q61, gq61, hR⟩ := hR
          replace hP : va_P (dC, dI) vwCl (fl [[((ad b1), .inr (4, [.ref (ad (b1 + 1)), .ref (ad (b1 + 6)), .ref (ad (b1 + 13)), .ref (ad (b1 + 23)), .ref (ad (b1 + 27)), .int (S1 4 1 0)]))], (w_X6 ad (b1 + 1) cs (S1 0)), (w_X1 ad (b1 + 6) cs (S1 1)), (w_X4 ad (b1 + 13) cs (S1 2)), (w_X8 ad (b1 + 23) cs (S1 3)), [((ad (b1 + 27)), .inl (cs 0, 3, .inl (S1 4 0)))]]) H45 := hP
          replace hD : va_D A (fl [[((ad b1), .inr (4, [.ref (ad (b1 + 1)), .ref (ad (b1 + 6)), .ref (ad (b1 + 13)), .ref (ad (b1 + 23)), .ref (ad (b1 + 27)), .int (S1 4 1 0)]))], (w_X6 ad (b1 + 1) cs (S1 0)), (w_X1 ad (b1 + 6) cs (S1 1)), (w_X4 ad (b1 + 13) cs (S1 2)), (w_X8 ad (b1 + 23) cs (S1 3)), [((ad (b1 + 27)), .inl (cs 0, 3, .inl (S1 4 0)))]]) := hD
          refine cl_Vv (As := [.int p2, .int (0 : Int32), .int (S1 3 0 p1.toNatClampNeg)]) (rest := []) (L := [[((ad b1), .inr (4, [.ref (ad (b1 + 1)), .ref (ad (b1 + 6)), .ref (ad (b1 + 13)), .ref (ad (b1 + 23)), .ref (ad (b1 + 27)), .int (S1 4 1 0)]))], (w_X6 ad (b1 + 1) cs (S1 0)), (w_X1 ad (b1 + 6) cs (S1 1)), (w_X4 ad (b1 + 13) cs (S1 2)), (w_X8 ad (b1 + 23) cs (S1 3)), [((ad (b1 + 27)), .inl (cs 0, 3, .inl (S1 4 0)))]]) (L' := [[((ad b1), .inr (4, [.ref (ad (b1 + 1)), .ref (ad (b1 + 6)), .ref (ad (b1 + 13)), .ref (ad (b1 + 23)), .ref (ad (b1 + 27)), .int ((sU S1 1 q61) 4 1 0)]))], (w_X6 ad (b1 + 1) cs ((sU S1 1 q61) 0)), (w_X1 ad (b1 + 6) cs ((sU S1 1 q61) 1)), (w_X4 ad (b1 + 13) cs ((sU S1 1 q61) 2)), (w_X8 ad (b1 + 23) cs ((sU S1 1 q61) 3)), [((ad (b1 + 27)), .inl (cs 0, 3, .inl ((sU S1 1 q61) 4 0)))]]) (Wc := [(w_X1 ad (b1 + 6) cs (S1 1))]) (Wc' := [(w_X1 ad (b1 + 6) cs q61)]) (is := [2]) (js := [0, 1, 3, 4, 5]) ⟨hx, hb, hml, hown, hts⟩ (k_X1_bring l dC dI cs ad (b1 + 6) H45.size (S1 1) p2 (0 : Int32) (S1 3 0 p1.toNatClampNeg) q61 gq61) (cwV 3 hts gX5_unload_X1_bring rfl rfl rfl cd_X1_bring ⟨Nat.le_of_ble_eq_true rfl, Nat.le_of_ble_eq_true rfl⟩) hK hP hD hS hA ⟨rfl, rfl, rfl, rfl, rfl, rfl⟩ (jn_nd (is := [2]) hD rfl rfl) 6 0 rfl rfl rfl rfl rfl hl.1 (Nat.le_of_ble_eq_true rfl) dX5_unload_61 (fun H61 locs61 hP' hD' hS' => ?_)
          replace hS := hS'
          have hP' : va_P (dC, dI) vwCl (fl [(w_X5 ad (b1) cs (sU S1 1 q61))]) H61 := hP'
          have hD' : va_D A (fl [(w_X5 ad (b1) cs (sU S1 1 q61))]) := hD'
          replace hR := bn_e hR
          obtain ⟨S1_61, eS1_61, hR⟩ := hR
          replace hP : va_P (dC, dI) vwCl (fl [(w_X5 ad (b1) cs S1_61)]) H61 := by rw [eS1_61]; exact hP'
          replace hD : va_D A (fl [(w_X5 ad (b1) cs S1_61)]) := by rw [eS1_61]; exact hD'
          clear hP' hD' hS'
          refine lv_aload_n hx hb dX5_unload_64 rfl (lv_at hl 1 rfl) ?_
          refine va_get (D := (dC, dI)) (ci := 4) (v := .ref (ad (b1 + 6))) (C := RX5) (T := TX5) (N := 6) hx hb hts hinX5 hown hK hP 0 rfl rfl 1 (by decide) hF21 (fun _ h9 => h9) rfl dX5_unload_65 ?_
          refine lv_iconst (v := 2) hx hb dX5_unload_68 ic_2 ?_
          refine lv_iload_n hx hb dX5_unload_69 rfl (lv_at hl 2 rfl) ?_
          replace hR := bd_e hR
          obtain ⟨q70, gq70, hR⟩ := hR
          replace hP : va_P (dC, dI) vwCl (fl [[((ad b1), .inr (4, [.ref (ad (b1 + 1)), .ref (ad (b1 + 6)), .ref (ad (b1 + 13)), .ref (ad (b1 + 23)), .ref (ad (b1 + 27)), .int (S1_61 4 1 0)]))], (w_X6 ad (b1 + 1) cs (S1_61 0)), (w_X1 ad (b1 + 6) cs (S1_61 1)), (w_X4 ad (b1 + 13) cs (S1_61 2)), (w_X8 ad (b1 + 23) cs (S1_61 3)), [((ad (b1 + 27)), .inl (cs 0, 3, .inl (S1_61 4 0)))]]) H61 := hP
          replace hD : va_D A (fl [[((ad b1), .inr (4, [.ref (ad (b1 + 1)), .ref (ad (b1 + 6)), .ref (ad (b1 + 13)), .ref (ad (b1 + 23)), .ref (ad (b1 + 27)), .int (S1_61 4 1 0)]))], (w_X6 ad (b1 + 1) cs (S1_61 0)), (w_X1 ad (b1 + 6) cs (S1_61 1)), (w_X4 ad (b1 + 13) cs (S1_61 2)), (w_X8 ad (b1 + 23) cs (S1_61 3)), [((ad (b1 + 27)), .inl (cs 0, 3, .inl (S1_61 4 0)))]]) := hD
          refine cl_Vi (As := [.int (2 : Int32), .int p1]) (rest := []) (L := [[((ad b1), .inr (4, [.ref (ad (b1 + 1)), .ref (ad (b1 + 6)), .ref (ad (b1 + 13)), .ref (ad (b1 + 23)), .ref (ad (b1 + 27)), .int (S1_61 4 1 0)]))], (w_X6 ad (b1 + 1) cs (S1_61 0)), (w_X1 ad (b1 + 6) cs (S1_61 1)), (w_X4 ad (b1 + 13) cs (S1_61 2)), (w_X8 ad (b1 + 23) cs (S1_61 3)), [((ad (b1 + 27)), .inl (cs 0, 3, .inl (S1_61 4 0)))]]) (L' := [[((ad b1), .inr (4, [.ref (ad (b1 + 1)), .ref (ad (b1 + 6)), .ref (ad (b1 + 13)), .ref (ad (b1 + 23)), .ref (ad (b1 + 27)), .int (S1_61 4 1 0)]))], (w_X6 ad (b1 + 1) cs (S1_61 0)), (w_X1 ad (b1 + 6) cs (S1_61 1)), (w_X4 ad (b1 + 13) cs (S1_61 2)), (w_X8 ad (b1 + 23) cs (S1_61 3)), [((ad (b1 + 27)), .inl (cs 0, 3, .inl (S1_61 4 0)))]]) (Wc := [(w_X1 ad (b1 + 6) cs (S1_61 1))]) (Wc' := [(w_X1 ad (b1 + 6) cs (S1_61 1))]) (is := [2]) (js := [0, 1, 3, 4, 5]) ⟨hx, hb, hml, hown, hts⟩ (k_X1_countAt l dC dI cs ad (b1 + 6) H61.size (S1_61 1) (2 : Int32) p1 q70 gq70) (cwV 2 hts gX5_unload_X1_countAt rfl rfl rfl cd_X1_countAt ⟨Nat.le_of_ble_eq_true rfl, Nat.le_of_ble_eq_true rfl⟩) hK hP hD hS hA ⟨rfl, rfl, rfl, rfl, rfl, rfl⟩ (jn_nd (is := [2]) hD rfl rfl) 6 0 rfl rfl rfl rfl rfl hl.1 (Nat.le_of_ble_eq_true rfl) dX5_unload_70 (fun H70 locs70 hP' hD' hS' => ?_)
          replace hS := hS'
          replace hP : va_P (dC, dI) vwCl (fl [(w_X5 ad (b1) cs S1_61)]) H70 := hP'
          replace hD : va_D A (fl [(w_X5 ad (b1) cs S1_61)]) := hD'
          clear hP' hD' hS'
          replace hR := Option.some.inj hR
          obtain ⟨e9, hR⟩ := Prod.mk.inj hR
          have eu1 := hR
          replace hP : va_P (dC, dI) vwCl (fl [(w_X5 ad (b1) cs u1)]) H70 := by rw [← eu1]; exact hP
          replace hD : va_D A (fl [(w_X5 ad (b1) cs u1)]) := by rw [← eu1]; exact hD
          exact W.iret hx hb hr (fun t ht hW => ⟨⟨_, (), rfl, e9, by rw [ht]; exact hP, va_K.moved hW.alike hK, hD⟩, hS.F ht⟩) hS.2.2 dX5_unload_73
        · replace hR := it_t hR c48
          refine lv_bipush (v := (-2)) hx hb dX5_unload_51 bp_m2 ?_
          replace hR := Option.some.inj hR
          obtain ⟨e9, hR⟩ := Prod.mk.inj hR
          have eu1 := hR
          replace hP : va_P (dC, dI) vwCl (fl [(w_X5 ad (b1) cs u1)]) H45 := by rw [← eu1]; exact hP
          replace hD : va_D A (fl [(w_X5 ad (b1) cs u1)]) := by rw [← eu1]; exact hD
          exact W.iret hx hb hr (fun t ht hW => ⟨⟨_, (), rfl, e9, by rw [ht]; exact hP, va_K.moved hW.alike hK, hD⟩, hS.F ht⟩) hS.2.2 dX5_unload_53
    · replace hR := it_t hR c19
      refine lv_iconst (v := (-1)) hx hb dX5_unload_22 ic_m1 ?_
      replace hR := Option.some.inj hR
      obtain ⟨e9, hR⟩ := Prod.mk.inj hR
      have eu1 := hR
      replace hP : va_P (dC, dI) vwCl (fl [(w_X5 ad (b1) cs u1)]) H16 := by rw [← eu1]; exact hP
      replace hD : va_D A (fl [(w_X5 ad (b1) cs u1)]) := by rw [← eu1]; exact hD
      exact W.iret hx hb hr (fun t ht hW => ⟨⟨_, (), rfl, e9, by rw [ht]; exact hP, va_K.moved hW.alike hK, hD⟩, hS.F ht⟩) hS.2.2 dX5_unload_23
set_option maxHeartbeats 8000000 in
set_option maxRecDepth 100000 in
theorem k_X5_sendVan (l : Launch) (dC : Nat → ClassId) (dI : Nat → Nat → Nat) (cs : Nat → ClassId) (ad : Nat → Nat) (b1 : Nat) (sz : Nat) (S1 : T3) (p1 : Int32) (p2 : Int32) (r : Int32) (u1 : T3) (hR : fX5_sendVan S1 p1 p2 = some (r, u1)) : Met l yX5_sendVan wsX5_sendVan ({ frames := 2, cells := 0, slots := 0, locals := 43 } : Room) (va_Pc [.ref (ad b1), .int p1, .int p2] (pW dC dI (tyL cs) (fl [(w_X5 ad (b1) cs S1)]) sz)) (QI dC dI (tyL cs) (va_A (fl [(w_X5 ad (b1) cs S1)]) sz) (fl [(w_X5 ad (b1) cs u1)]) r) 0 0 (va_A (fl [(w_X5 ad (b1) cs S1)]) sz) := by
  refine mt_of (own := RX5) (cc := cX5_sendVan) (maxL := 4) (ret := (some .int)) (Qc := fun A => QI dC dI (tyL cs) A (fl [(w_X5 ad (b1) cs u1)]) r) rfl (by decide) rfl (Nat.le_of_ble_eq_true rfl) (fun p e s m below meth c A ls hsz hx hb hr hts hown hlocks hml hA hK hP hD hS hl => ?_)
  subst hsz
  have hl : lv_has ls 4 [(0, .ref (ad b1)), (1, .int p1), (2, .int p2)] := hl
  have hF12 := hts (.fieldLink RX5 12 "DockedBikes$Road" "stations" "LDockedBikes$Stations;") (List.mem_of_getElem? (i := 2) rfl)
  have hF35 := hts (.fieldLink RX5 35 "DockedBikes$Road" "vans" "LDockedBikes$Vans;") (List.mem_of_getElem? (i := 1) rfl)
  have hF62 := hts (.fieldLink RX5 62 "DockedBikes$Road" "time" "I") (List.mem_of_getElem? (i := 4) rfl)
  have hF157 := hts (.fieldLink RX5 157 "DockedBikes$Vans" "station" "[I") (List.mem_of_getElem? (i := 3) rfl)
  have hF177 := hts (.fieldLink RX5 177 "DockedBikes$Vans" "arrival" "[I") (List.mem_of_getElem? (i := 5) rfl)
  have hinX5 : ∀ w ∈ wsX50, w ∈ wsX5_sendVan := by decide +kernel
  have hinX8 : ∀ w ∈ wsX80, w ∈ wsX5_sendVan := by decide +kernel
  refine lv_aload_n hx hb dX5_sendVan_0 rfl (lv_at hl 0 rfl) ?_
  refine va_get (D := (dC, dI)) (ci := 4) (v := .ref (ad (b1 + 23))) (C := RX5) (T := TX5) (N := 6) hx hb hts hinX5 hown hK hP 0 rfl rfl 3 (by decide) hF35 (fun _ h9 => h9) rfl dX5_sendVan_1 ?_
  refine lv_iload_n hx hb dX5_sendVan_4 rfl (lv_at hl 1 rfl) ?_
  replace hR := bd_e hR
  obtain ⟨q5, gq5, hR⟩ := hR
  replace hP : va_P (dC, dI) vwCl (fl [[((ad b1), .inr (4, [.ref (ad (b1 + 1)), .ref (ad (b1 + 6)), .ref (ad (b1 + 13)), .ref (ad (b1 + 23)), .ref (ad (b1 + 27)), .int (S1 4 1 0)]))], (w_X6 ad (b1 + 1) cs (S1 0)), (w_X1 ad (b1 + 6) cs (S1 1)), (w_X4 ad (b1 + 13) cs (S1 2)), (w_X8 ad (b1 + 23) cs (S1 3)), [((ad (b1 + 27)), .inl (cs 0, 3, .inl (S1 4 0)))]]) s.heap := hP
  replace hD : va_D A (fl [[((ad b1), .inr (4, [.ref (ad (b1 + 1)), .ref (ad (b1 + 6)), .ref (ad (b1 + 13)), .ref (ad (b1 + 23)), .ref (ad (b1 + 27)), .int (S1 4 1 0)]))], (w_X6 ad (b1 + 1) cs (S1 0)), (w_X1 ad (b1 + 6) cs (S1 1)), (w_X4 ad (b1 + 13) cs (S1 2)), (w_X8 ad (b1 + 23) cs (S1 3)), [((ad (b1 + 27)), .inl (cs 0, 3, .inl (S1 4 0)))]]) := hD
  refine cl_Vi (As := [.int p1]) (rest := []) (L := [[((ad b1), .inr (4, [.ref (ad (b1 + 1)), .ref (ad (b1 + 6)), .ref (ad (b1 + 13)), .ref (ad (b1 + 23)), .ref (ad (b1 + 27)), .int (S1 4 1 0)]))], (w_X6 ad (b1 + 1) cs (S1 0)), (w_X1 ad (b1 + 6) cs (S1 1)), (w_X4 ad (b1 + 13) cs (S1 2)), (w_X8 ad (b1 + 23) cs (S1 3)), [((ad (b1 + 27)), .inl (cs 0, 3, .inl (S1 4 0)))]]) (L' := [[((ad b1), .inr (4, [.ref (ad (b1 + 1)), .ref (ad (b1 + 6)), .ref (ad (b1 + 13)), .ref (ad (b1 + 23)), .ref (ad (b1 + 27)), .int (S1 4 1 0)]))], (w_X6 ad (b1 + 1) cs (S1 0)), (w_X1 ad (b1 + 6) cs (S1 1)), (w_X4 ad (b1 + 13) cs (S1 2)), (w_X8 ad (b1 + 23) cs (S1 3)), [((ad (b1 + 27)), .inl (cs 0, 3, .inl (S1 4 0)))]]) (Wc := [(w_X8 ad (b1 + 23) cs (S1 3))]) (Wc' := [(w_X8 ad (b1 + 23) cs (S1 3))]) (is := [4]) (js := [0, 1, 2, 3, 5]) ⟨hx, hb, hml, hown, hts⟩ (k_X8_has l dC dI cs ad (b1 + 23) s.heap.size (S1 3) p1 q5 gq5) (cwV 1 hts gX5_sendVan_X8_has rfl rfl rfl cd_X8_has ⟨Nat.le_of_ble_eq_true rfl, Nat.le_of_ble_eq_true rfl⟩) hK hP hD hS hA ⟨rfl, rfl, rfl, rfl, rfl, rfl⟩ (jn_nd (is := [4]) hD rfl rfl) 23 7 rfl rfl rfl rfl rfl hl.1 (Nat.le_of_ble_eq_true rfl) dX5_sendVan_5 (fun H5 locs5 hP' hD' hS' => ?_)
  replace hS := hS'
  replace hP : va_P (dC, dI) vwCl (fl [(w_X5 ad (b1) cs S1)]) H5 := hP'
  replace hD : va_D A (fl [(w_X5 ad (b1) cs S1)]) := hD'
  clear hP' hD' hS'
  refine lv_if_eq (tgt := 22) hx hb dX5_sendVan_8 (by decide) (fun c8 => ?_) (fun c8 => ?_)
  · replace hR := it_t hR c8
    refine lv_iconst (v := (-1)) hx hb dX5_sendVan_22 ic_m1 ?_
    replace hR := Option.some.inj hR
    obtain ⟨e9, hR⟩ := Prod.mk.inj hR
    have eu1 := hR
    replace hP : va_P (dC, dI) vwCl (fl [(w_X5 ad (b1) cs u1)]) H5 := by rw [← eu1]; exact hP
    replace hD : va_D A (fl [(w_X5 ad (b1) cs u1)]) := by rw [← eu1]; exact hD
    exact W.iret hx hb hr (fun t ht hW => ⟨⟨_, (), rfl, e9, by rw [ht]; exact hP, va_K.moved hW.alike hK, hD⟩, hS.F ht⟩) hS.2.2 dX5_sendVan_23
  · replace hR := it_f hR c8
    refine lv_aload_n hx hb dX5_sendVan_11 rfl (lv_at hl 0 rfl) ?_
    refine va_get (D := (dC, dI)) (ci := 4) (v := .ref (ad (b1 + 1))) (C := RX5) (T := TX5) (N := 6) hx hb hts hinX5 hown hK hP 0 rfl rfl 0 (by decide) hF12 (fun _ h9 => h9) rfl dX5_sendVan_12 ?_
    refine lv_iload_n hx hb dX5_sendVan_15 rfl (lv_at hl 2 rfl) ?_
    replace hR := bd_e hR
    obtain ⟨q16, gq16, hR⟩ := hR
    replace hP : va_P (dC, dI) vwCl (fl [[((ad b1), .inr (4, [.ref (ad (b1 + 1)), .ref (ad (b1 + 6)), .ref (ad (b1 + 13)), .ref (ad (b1 + 23)), .ref (ad (b1 + 27)), .int (S1 4 1 0)]))], (w_X6 ad (b1 + 1) cs (S1 0)), (w_X1 ad (b1 + 6) cs (S1 1)), (w_X4 ad (b1 + 13) cs (S1 2)), (w_X8 ad (b1 + 23) cs (S1 3)), [((ad (b1 + 27)), .inl (cs 0, 3, .inl (S1 4 0)))]]) H5 := hP
    replace hD : va_D A (fl [[((ad b1), .inr (4, [.ref (ad (b1 + 1)), .ref (ad (b1 + 6)), .ref (ad (b1 + 13)), .ref (ad (b1 + 23)), .ref (ad (b1 + 27)), .int (S1 4 1 0)]))], (w_X6 ad (b1 + 1) cs (S1 0)), (w_X1 ad (b1 + 6) cs (S1 1)), (w_X4 ad (b1 + 13) cs (S1 2)), (w_X8 ad (b1 + 23) cs (S1 3)), [((ad (b1 + 27)), .inl (cs 0, 3, .inl (S1 4 0)))]]) := hD
    refine cl_Vi (As := [.int p2]) (rest := []) (L := [[((ad b1), .inr (4, [.ref (ad (b1 + 1)), .ref (ad (b1 + 6)), .ref (ad (b1 + 13)), .ref (ad (b1 + 23)), .ref (ad (b1 + 27)), .int (S1 4 1 0)]))], (w_X6 ad (b1 + 1) cs (S1 0)), (w_X1 ad (b1 + 6) cs (S1 1)), (w_X4 ad (b1 + 13) cs (S1 2)), (w_X8 ad (b1 + 23) cs (S1 3)), [((ad (b1 + 27)), .inl (cs 0, 3, .inl (S1 4 0)))]]) (L' := [[((ad b1), .inr (4, [.ref (ad (b1 + 1)), .ref (ad (b1 + 6)), .ref (ad (b1 + 13)), .ref (ad (b1 + 23)), .ref (ad (b1 + 27)), .int (S1 4 1 0)]))], (w_X6 ad (b1 + 1) cs (S1 0)), (w_X1 ad (b1 + 6) cs (S1 1)), (w_X4 ad (b1 + 13) cs (S1 2)), (w_X8 ad (b1 + 23) cs (S1 3)), [((ad (b1 + 27)), .inl (cs 0, 3, .inl (S1 4 0)))]]) (Wc := [(w_X6 ad (b1 + 1) cs (S1 0))]) (Wc' := [(w_X6 ad (b1 + 1) cs (S1 0))]) (is := [1]) (js := [0, 2, 3, 4, 5]) ⟨hx, hb, hml, hown, hts⟩ (k_X6_has l dC dI cs ad (b1 + 1) H5.size (S1 0) p2 q16 gq16) (cwV 1 hts gX5_sendVan_X6_has rfl rfl rfl cd_X6_has ⟨Nat.le_of_ble_eq_true rfl, Nat.le_of_ble_eq_true rfl⟩) hK hP hD hS hA ⟨rfl, rfl, rfl, rfl, rfl, rfl⟩ (jn_nd (is := [1]) hD rfl rfl) 1 5 rfl rfl rfl rfl rfl hl.1 (Nat.le_of_ble_eq_true rfl) dX5_sendVan_16 (fun H16 locs16 hP' hD' hS' => ?_)
    replace hS := hS'
    replace hP : va_P (dC, dI) vwCl (fl [(w_X5 ad (b1) cs S1)]) H16 := hP'
    replace hD : va_D A (fl [(w_X5 ad (b1) cs S1)]) := hD'
    clear hP' hD' hS'
    refine lv_if_ne (tgt := 24) hx hb dX5_sendVan_19 (by decide) (fun c19 => ?_) (fun c19 => ?_)
    · replace hR := it_f hR c19
      refine lv_aload_n hx hb dX5_sendVan_24 rfl (lv_at hl 0 rfl) ?_
      refine lv_iload_n hx hb dX5_sendVan_25 rfl (lv_at hl 1 rfl) ?_
      replace hR := bd_e hR
      obtain ⟨q26, gq26, hR⟩ := hR
      refine cl_Vi (As := [.int p1]) (rest := []) (L := [(w_X5 ad (b1) cs S1)]) (L' := [(w_X5 ad (b1) cs S1)]) (Wc := [(w_X5 ad (b1) cs S1)]) (Wc' := [(w_X5 ad (b1) cs S1)]) (is := [0]) (js := []) ⟨hx, hb, hml, hown, hts⟩ (k_X5_isUnderWay l dC dI cs ad (b1) H16.size S1 p1 q26 gq26) (cwV 1 hts gX5_sendVan_X5_isUnderWay rfl rfl rfl cd_X5_isUnderWay ⟨Nat.le_of_ble_eq_true rfl, Nat.le_of_ble_eq_true rfl⟩) hK hP hD hS hA ⟨rfl, rfl, rfl, rfl, rfl, rfl⟩ (jn_nd (is := [0]) hD rfl rfl) 0 4 rfl rfl rfl rfl rfl hl.1 (Nat.le_of_ble_eq_true rfl) dX5_sendVan_26 (fun H26 locs26 hP' hD' hS' => ?_)
      replace hS := hS'
      replace hP : va_P (dC, dI) vwCl (fl [(w_X5 ad (b1) cs S1)]) H26 := hP'
      replace hD : va_D A (fl [(w_X5 ad (b1) cs S1)]) := hD'
      clear hP' hD' hS'
      refine lv_if_ne (tgt := 45) hx hb dX5_sendVan_29 (by decide) (fun c29 => ?_) (fun c29 => ?_)
      · replace hR := it_f hR c29
        refine lv_bipush (v := (-2)) hx hb dX5_sendVan_45 bp_m2 ?_
        replace hR := Option.some.inj hR
        obtain ⟨e9, hR⟩ := Prod.mk.inj hR
        have eu1 := hR
        replace hP : va_P (dC, dI) vwCl (fl [(w_X5 ad (b1) cs u1)]) H26 := by rw [← eu1]; exact hP
        replace hD : va_D A (fl [(w_X5 ad (b1) cs u1)]) := by rw [← eu1]; exact hD
        exact W.iret hx hb hr (fun t ht hW => ⟨⟨_, (), rfl, e9, by rw [ht]; exact hP, va_K.moved hW.alike hK, hD⟩, hS.F ht⟩) hS.2.2 dX5_sendVan_47
      · replace hR := it_t hR c29
        refine lv_aload_n hx hb dX5_sendVan_32 rfl (lv_at hl 0 rfl) ?_
        refine va_get (D := (dC, dI)) (ci := 4) (v := .ref (ad (b1 + 23))) (C := RX5) (T := TX5) (N := 6) hx hb hts hinX5 hown hK hP 0 rfl rfl 3 (by decide) hF35 (fun _ h9 => h9) rfl dX5_sendVan_33 ?_
        refine va_get (D := (dC, dI)) (ci := 7) (v := .ref (ad (b1 + 23 + 1))) (C := RX8) (T := TX8) (N := 4) hx hb hts hinX8 hown hK hP 23 rfl rfl 1 (by decide) hF157 (fun _ h9 => h9) rfl dX5_sendVan_36 ?_
        refine lv_iload_n hx hb dX5_sendVan_39 rfl (lv_at hl 1 rfl) ?_
        replace hR := gi_e hR
        obtain ⟨i40, hR⟩ := hR
        refine va_iald hx hb hK hP 24 0 rfl rfl i40 dX5_sendVan_40 ?_
        refine lv_iload_n hx hb dX5_sendVan_41 rfl (lv_at hl 2 rfl) ?_
        refine lv_icmp_ne (tgt := 48) hx hb dX5_sendVan_42 (by decide) (fun c42 => ?_) (fun c42 => ?_)
        · replace hR := it_f hR c42
          refine lv_aload_n hx hb dX5_sendVan_48 rfl (lv_at hl 0 rfl) ?_
          refine va_get (D := (dC, dI)) (ci := 4) (v := .int (S1 4 1 0)) (C := RX5) (T := TX5) (N := 6) hx hb hts hinX5 hown hK hP 0 rfl rfl 5 (by decide) hF62 (fun _ h9 => h9) rfl dX5_sendVan_49 ?_
          refine lv_aload_n hx hb dX5_sendVan_52 rfl (lv_at hl 0 rfl) ?_
          refine va_get (D := (dC, dI)) (ci := 4) (v := .ref (ad (b1 + 1))) (C := RX5) (T := TX5) (N := 6) hx hb hts hinX5 hown hK hP 0 rfl rfl 0 (by decide) hF12 (fun _ h9 => h9) rfl dX5_sendVan_53 ?_
          refine lv_aload_n hx hb dX5_sendVan_56 rfl (lv_at hl 0 rfl) ?_
          refine va_get (D := (dC, dI)) (ci := 4) (v := .ref (ad (b1 + 23))) (C := RX5) (T := TX5) (N := 6) hx hb hts hinX5 hown hK hP 0 rfl rfl 3 (by decide) hF35 (fun _ h9 => h9) rfl dX5_sendVan_57 ?_
          refine va_get (D := (dC, dI)) (ci := 7) (v := .ref (ad (b1 + 23 + 1))) (C := RX8) (T := TX8) (N := 4) hx hb hts hinX8 hown hK hP 23 rfl rfl 1 (by decide) hF157 (fun _ h9 => h9) rfl dX5_sendVan_60 ?_
          refine lv_iload_n hx hb dX5_sendVan_63 rfl (lv_at hl 1 rfl) ?_
          replace hR := gi_e hR
          obtain ⟨i64, hR⟩ := hR
          refine va_iald hx hb hK hP 24 0 rfl rfl i64 dX5_sendVan_64 ?_
          refine lv_iload_n hx hb dX5_sendVan_65 rfl (lv_at hl 2 rfl) ?_
          replace hR := bd_e hR
          obtain ⟨q66, gq66, hR⟩ := hR
          replace hP : va_P (dC, dI) vwCl (fl [[((ad b1), .inr (4, [.ref (ad (b1 + 1)), .ref (ad (b1 + 6)), .ref (ad (b1 + 13)), .ref (ad (b1 + 23)), .ref (ad (b1 + 27)), .int (S1 4 1 0)]))], (w_X6 ad (b1 + 1) cs (S1 0)), (w_X1 ad (b1 + 6) cs (S1 1)), (w_X4 ad (b1 + 13) cs (S1 2)), (w_X8 ad (b1 + 23) cs (S1 3)), [((ad (b1 + 27)), .inl (cs 0, 3, .inl (S1 4 0)))]]) H26 := hP
          replace hD : va_D A (fl [[((ad b1), .inr (4, [.ref (ad (b1 + 1)), .ref (ad (b1 + 6)), .ref (ad (b1 + 13)), .ref (ad (b1 + 23)), .ref (ad (b1 + 27)), .int (S1 4 1 0)]))], (w_X6 ad (b1 + 1) cs (S1 0)), (w_X1 ad (b1 + 6) cs (S1 1)), (w_X4 ad (b1 + 13) cs (S1 2)), (w_X8 ad (b1 + 23) cs (S1 3)), [((ad (b1 + 27)), .inl (cs 0, 3, .inl (S1 4 0)))]]) := hD
          refine cl_Vi (As := [.int (S1 3 0 p1.toNatClampNeg), .int p2]) (rest := [.int (S1 4 1 0)]) (L := [[((ad b1), .inr (4, [.ref (ad (b1 + 1)), .ref (ad (b1 + 6)), .ref (ad (b1 + 13)), .ref (ad (b1 + 23)), .ref (ad (b1 + 27)), .int (S1 4 1 0)]))], (w_X6 ad (b1 + 1) cs (S1 0)), (w_X1 ad (b1 + 6) cs (S1 1)), (w_X4 ad (b1 + 13) cs (S1 2)), (w_X8 ad (b1 + 23) cs (S1 3)), [((ad (b1 + 27)), .inl (cs 0, 3, .inl (S1 4 0)))]]) (L' := [[((ad b1), .inr (4, [.ref (ad (b1 + 1)), .ref (ad (b1 + 6)), .ref (ad (b1 + 13)), .ref (ad (b1 + 23)), .ref (ad (b1 + 27)), .int (S1 4 1 0)]))], (w_X6 ad (b1 + 1) cs (S1 0)), (w_X1 ad (b1 + 6) cs (S1 1)), (w_X4 ad (b1 + 13) cs (S1 2)), (w_X8 ad (b1 + 23) cs (S1 3)), [((ad (b1 + 27)), .inl (cs 0, 3, .inl (S1 4 0)))]]) (Wc := [(w_X6 ad (b1 + 1) cs (S1 0))]) (Wc' := [(w_X6 ad (b1 + 1) cs (S1 0))]) (is := [1]) (js := [0, 2, 3, 4, 5]) ⟨hx, hb, hml, hown, hts⟩ (k_X6_way l dC dI cs ad (b1 + 1) H26.size (S1 0) (S1 3 0 p1.toNatClampNeg) p2 q66 gq66) (cwV 2 hts gX5_sendVan_X6_way rfl rfl rfl cd_X6_way ⟨Nat.le_of_ble_eq_true rfl, Nat.le_of_ble_eq_true rfl⟩) hK hP hD hS hA ⟨rfl, rfl, rfl, rfl, rfl, rfl⟩ (jn_nd (is := [1]) hD rfl rfl) 1 5 rfl rfl rfl rfl rfl hl.1 (Nat.le_of_ble_eq_true rfl) dX5_sendVan_66 (fun H66 locs66 hP' hD' hS' => ?_)
          replace hS := hS'
          replace hP : va_P (dC, dI) vwCl (fl [(w_X5 ad (b1) cs S1)]) H66 := hP'
          replace hD : va_D A (fl [(w_X5 ad (b1) cs S1)]) := hD'
          clear hP' hD' hS'
          refine lv_iconst (v := 2) hx hb dX5_sendVan_69 ic_2 ?_
          refine lv_idiv hx hb dX5_sendVan_70 (by decide) ?_
          refine lv_iadd hx hb dX5_sendVan_71 ?_
          refine lv_iconst (v := 1) hx hb dX5_sendVan_72 ic_1 ?_
          refine lv_iadd hx hb dX5_sendVan_73 ?_
          refine lv_istore_n (lv' := [(3, .int (((S1 4 1 0) + (q66 / 2)) + 1)), (0, .ref (ad b1)), (1, .int p1), (2, .int p2)]) hx hb dX5_sendVan_74 rfl hl (Nat.le_of_ble_eq_true rfl) rfl (fun ls hl => ?_)
          refine lv_aload_n hx hb dX5_sendVan_75 rfl (lv_at hl 1 rfl) ?_
          refine va_get (D := (dC, dI)) (ci := 4) (v := .ref (ad (b1 + 23))) (C := RX5) (T := TX5) (N := 6) hx hb hts hinX5 hown hK hP 0 rfl rfl 3 (by decide) hF35 (fun _ h9 => h9) rfl dX5_sendVan_76 ?_
          refine va_get (D := (dC, dI)) (ci := 7) (v := .ref (ad (b1 + 23 + 1))) (C := RX8) (T := TX8) (N := 4) hx hb hts hinX8 hown hK hP 23 rfl rfl 1 (by decide) hF157 (fun _ h9 => h9) rfl dX5_sendVan_79 ?_
          refine lv_iload_n hx hb dX5_sendVan_82 rfl (lv_at hl 2 rfl) ?_
          refine lv_iload_n hx hb dX5_sendVan_83 rfl (lv_at hl 3 rfl) ?_
          replace hR := gi_e hR
          obtain ⟨i84, hR⟩ := hR
          refine va_iast hx hb hK hP hD hS 24 0 rfl rfl i84 dX5_sendVan_84 (fun H84 locs84 hP' hD' hS' => ?_)
          replace hS := hS'
          have hP' : va_P (dC, dI) vwCl (fl [(w_X5 ad (b1) cs (sU S1 3 (sU (S1 3) 0 (sU (S1 3 0) p1.toNatClampNeg p2))))]) H84 := hP'
          have hD' : va_D A (fl [(w_X5 ad (b1) cs (sU S1 3 (sU (S1 3) 0 (sU (S1 3 0) p1.toNatClampNeg p2))))]) := hD'
          replace hR := bn_e hR
          obtain ⟨S1_84, eS1_84, hR⟩ := hR
          replace hP : va_P (dC, dI) vwCl (fl [(w_X5 ad (b1) cs S1_84)]) H84 := by rw [eS1_84]; exact hP'
          replace hD : va_D A (fl [(w_X5 ad (b1) cs S1_84)]) := by rw [eS1_84]; exact hD'
          clear hP' hD' hS'
          refine lv_aload_n hx hb dX5_sendVan_85 rfl (lv_at hl 1 rfl) ?_
          refine va_get (D := (dC, dI)) (ci := 4) (v := .ref (ad (b1 + 23))) (C := RX5) (T := TX5) (N := 6) hx hb hts hinX5 hown hK hP 0 rfl rfl 3 (by decide) hF35 (fun _ h9 => h9) rfl dX5_sendVan_86 ?_
          refine va_get (D := (dC, dI)) (ci := 7) (v := .ref (ad (b1 + 23 + 3))) (C := RX8) (T := TX8) (N := 4) hx hb hts hinX8 hown hK hP 23 rfl rfl 3 (by decide) hF177 (fun _ h9 => h9) rfl dX5_sendVan_89 ?_
          refine lv_iload_n hx hb dX5_sendVan_92 rfl (lv_at hl 2 rfl) ?_
          refine lv_iload_n hx hb dX5_sendVan_93 rfl (lv_at hl 0 rfl) ?_
          replace hR := gi_e hR
          obtain ⟨i94, hR⟩ := hR
          refine va_iast hx hb hK hP hD hS 26 0 rfl rfl i94 dX5_sendVan_94 (fun H94 locs94 hP' hD' hS' => ?_)
          replace hS := hS'
          have hP' : va_P (dC, dI) vwCl (fl [(w_X5 ad (b1) cs (sU S1_84 3 (sU (S1_84 3) 2 (sU (S1_84 3 2) p1.toNatClampNeg (((S1 4 1 0) + (q66 / 2)) + 1)))))]) H94 := hP'
          have hD' : va_D A (fl [(w_X5 ad (b1) cs (sU S1_84 3 (sU (S1_84 3) 2 (sU (S1_84 3 2) p1.toNatClampNeg (((S1 4 1 0) + (q66 / 2)) + 1)))))]) := hD'
          replace hR := bn_e hR
          obtain ⟨S1_94, eS1_94, hR⟩ := hR
          replace hP : va_P (dC, dI) vwCl (fl [(w_X5 ad (b1) cs S1_94)]) H94 := by rw [eS1_94]; exact hP'
          replace hD : va_D A (fl [(w_X5 ad (b1) cs S1_94)]) := by rw [eS1_94]; exact hD'
          clear hP' hD' hS'
          refine lv_iload_n hx hb dX5_sendVan_95 rfl (lv_at hl 0 rfl) ?_
          replace hR := Option.some.inj hR
          obtain ⟨e9, hR⟩ := Prod.mk.inj hR
          have eu1 := hR
          replace hP : va_P (dC, dI) vwCl (fl [(w_X5 ad (b1) cs u1)]) H94 := by rw [← eu1]; exact hP
          replace hD : va_D A (fl [(w_X5 ad (b1) cs u1)]) := by rw [← eu1]; exact hD
          exact W.iret hx hb hr (fun t ht hW => ⟨⟨_, (), rfl, e9, by rw [ht]; exact hP, va_K.moved hW.alike hK, hD⟩, hS.F ht⟩) hS.2.2 dX5_sendVan_96
        · replace hR := it_t hR c42
          refine lv_bipush (v := (-2)) hx hb dX5_sendVan_45 bp_m2 ?_
          replace hR := Option.some.inj hR
          obtain ⟨e9, hR⟩ := Prod.mk.inj hR
          have eu1 := hR
          replace hP : va_P (dC, dI) vwCl (fl [(w_X5 ad (b1) cs u1)]) H26 := by rw [← eu1]; exact hP
          replace hD : va_D A (fl [(w_X5 ad (b1) cs u1)]) := by rw [← eu1]; exact hD
          exact W.iret hx hb hr (fun t ht hW => ⟨⟨_, (), rfl, e9, by rw [ht]; exact hP, va_K.moved hW.alike hK, hD⟩, hS.F ht⟩) hS.2.2 dX5_sendVan_47
    · replace hR := it_t hR c19
      refine lv_iconst (v := (-1)) hx hb dX5_sendVan_22 ic_m1 ?_
      replace hR := Option.some.inj hR
      obtain ⟨e9, hR⟩ := Prod.mk.inj hR
      have eu1 := hR
      replace hP : va_P (dC, dI) vwCl (fl [(w_X5 ad (b1) cs u1)]) H16 := by rw [← eu1]; exact hP
      replace hD : va_D A (fl [(w_X5 ad (b1) cs u1)]) := by rw [← eu1]; exact hD
      exact W.iret hx hb hr (fun t ht hW => ⟨⟨_, (), rfl, e9, by rw [ht]; exact hP, va_K.moved hW.alike hK, hD⟩, hS.F ht⟩) hS.2.2 dX5_sendVan_23
set_option maxHeartbeats 8000000 in
set_option maxRecDepth 100000 in
theorem k_X5_handOver (l : Launch) (dC : Nat → ClassId) (dI : Nat → Nat → Nat) (cs : Nat → ClassId) (ad : Nat → Nat) (b1 : Nat) (sz : Nat) (S1 : T3) (p1 : Int32) (p2 : Int32) (r : Int32) (u1 : T3) (hR : fX5_handOver S1 p1 p2 = some (r, u1)) : Met l yX5_handOver wsX5_handOver ({ frames := 3, cells := 0, slots := 0, locals := 66 } : Room) (va_Pc [.ref (ad b1), .int p1, .int p2] (pW dC dI (tyL cs) (fl [(w_X5 ad (b1) cs S1)]) sz)) (QI dC dI (tyL cs) (va_A (fl [(w_X5 ad (b1) cs S1)]) sz) (fl [(w_X5 ad (b1) cs u1)]) r) 0 0 (va_A (fl [(w_X5 ad (b1) cs S1)]) sz) := by
  refine mt_of (own := RX5) (cc := cX5_handOver) (maxL := 3) (ret := (some .int)) (Qc := fun A => QI dC dI (tyL cs) A (fl [(w_X5 ad (b1) cs u1)]) r) rfl (by decide) rfl (Nat.le_of_ble_eq_true rfl) (fun p e s m below meth c A ls hsz hx hb hr hts hown hlocks hml hA hK hP hD hS hl => ?_)
  subst hsz
  have hl : lv_has ls 3 [(0, .ref (ad b1)), (1, .int p1), (2, .int p2)] := hl
  have hF21 := hts (.fieldLink RX5 21 "DockedBikes$Road" "bicycles" "LDockedBikes$Bicycles;") (List.mem_of_getElem? (i := 2) rfl)
  have hF35 := hts (.fieldLink RX5 35 "DockedBikes$Road" "vans" "LDockedBikes$Vans;") (List.mem_of_getElem? (i := 1) rfl)
  have hF39 := hts (.fieldLink RX5 39 "DockedBikes$Road" "settings" "[I") (List.mem_of_getElem? (i := 6) rfl)
  have hF62 := hts (.fieldLink RX5 62 "DockedBikes$Road" "time" "I") (List.mem_of_getElem? (i := 5) rfl)
  have hF157 := hts (.fieldLink RX5 157 "DockedBikes$Vans" "station" "[I") (List.mem_of_getElem? (i := 3) rfl)
  have hF180 := hts (.fieldLink RX5 180 "DockedBikes$Bicycles" "ready" "[I") (List.mem_of_getElem? (i := 4) rfl)
  have hinX1 : ∀ w ∈ wsX10, w ∈ wsX5_handOver := by decide +kernel
  have hinX5 : ∀ w ∈ wsX50, w ∈ wsX5_handOver := by decide +kernel
  have hinX8 : ∀ w ∈ wsX80, w ∈ wsX5_handOver := by decide +kernel
  refine lv_aload_n hx hb dX5_handOver_0 rfl (lv_at hl 0 rfl) ?_
  refine va_get (D := (dC, dI)) (ci := 4) (v := .ref (ad (b1 + 23))) (C := RX5) (T := TX5) (N := 6) hx hb hts hinX5 hown hK hP 0 rfl rfl 3 (by decide) hF35 (fun _ h9 => h9) rfl dX5_handOver_1 ?_
  refine lv_iload_n hx hb dX5_handOver_4 rfl (lv_at hl 1 rfl) ?_
  replace hR := bd_e hR
  obtain ⟨q5, gq5, hR⟩ := hR
  replace hP : va_P (dC, dI) vwCl (fl [[((ad b1), .inr (4, [.ref (ad (b1 + 1)), .ref (ad (b1 + 6)), .ref (ad (b1 + 13)), .ref (ad (b1 + 23)), .ref (ad (b1 + 27)), .int (S1 4 1 0)]))], (w_X6 ad (b1 + 1) cs (S1 0)), (w_X1 ad (b1 + 6) cs (S1 1)), (w_X4 ad (b1 + 13) cs (S1 2)), (w_X8 ad (b1 + 23) cs (S1 3)), [((ad (b1 + 27)), .inl (cs 0, 3, .inl (S1 4 0)))]]) s.heap := hP
  replace hD : va_D A (fl [[((ad b1), .inr (4, [.ref (ad (b1 + 1)), .ref (ad (b1 + 6)), .ref (ad (b1 + 13)), .ref (ad (b1 + 23)), .ref (ad (b1 + 27)), .int (S1 4 1 0)]))], (w_X6 ad (b1 + 1) cs (S1 0)), (w_X1 ad (b1 + 6) cs (S1 1)), (w_X4 ad (b1 + 13) cs (S1 2)), (w_X8 ad (b1 + 23) cs (S1 3)), [((ad (b1 + 27)), .inl (cs 0, 3, .inl (S1 4 0)))]]) := hD
  refine cl_Vi (As := [.int p1]) (rest := []) (L := [[((ad b1), .inr (4, [.ref (ad (b1 + 1)), .ref (ad (b1 + 6)), .ref (ad (b1 + 13)), .ref (ad (b1 + 23)), .ref (ad (b1 + 27)), .int (S1 4 1 0)]))], (w_X6 ad (b1 + 1) cs (S1 0)), (w_X1 ad (b1 + 6) cs (S1 1)), (w_X4 ad (b1 + 13) cs (S1 2)), (w_X8 ad (b1 + 23) cs (S1 3)), [((ad (b1 + 27)), .inl (cs 0, 3, .inl (S1 4 0)))]]) (L' := [[((ad b1), .inr (4, [.ref (ad (b1 + 1)), .ref (ad (b1 + 6)), .ref (ad (b1 + 13)), .ref (ad (b1 + 23)), .ref (ad (b1 + 27)), .int (S1 4 1 0)]))], (w_X6 ad (b1 + 1) cs (S1 0)), (w_X1 ad (b1 + 6) cs (S1 1)), (w_X4 ad (b1 + 13) cs (S1 2)), (w_X8 ad (b1 + 23) cs (S1 3)), [((ad (b1 + 27)), .inl (cs 0, 3, .inl (S1 4 0)))]]) (Wc := [(w_X8 ad (b1 + 23) cs (S1 3))]) (Wc' := [(w_X8 ad (b1 + 23) cs (S1 3))]) (is := [4]) (js := [0, 1, 2, 3, 5]) ⟨hx, hb, hml, hown, hts⟩ (k_X8_has l dC dI cs ad (b1 + 23) s.heap.size (S1 3) p1 q5 gq5) (cwV 1 hts gX5_handOver_X8_has rfl rfl rfl cd_X8_has ⟨Nat.le_of_ble_eq_true rfl, Nat.le_of_ble_eq_true rfl⟩) hK hP hD hS hA ⟨rfl, rfl, rfl, rfl, rfl, rfl⟩ (jn_nd (is := [4]) hD rfl rfl) 23 7 rfl rfl rfl rfl rfl hl.1 (Nat.le_of_ble_eq_true rfl) dX5_handOver_5 (fun H5 locs5 hP' hD' hS' => ?_)
  replace hS := hS'
  replace hP : va_P (dC, dI) vwCl (fl [(w_X5 ad (b1) cs S1)]) H5 := hP'
  replace hD : va_D A (fl [(w_X5 ad (b1) cs S1)]) := hD'
  clear hP' hD' hS'
  refine lv_if_eq (tgt := 22) hx hb dX5_handOver_8 (by decide) (fun c8 => ?_) (fun c8 => ?_)
  · replace hR := it_t hR c8
    refine lv_iconst (v := (-1)) hx hb dX5_handOver_22 ic_m1 ?_
    replace hR := Option.some.inj hR
    obtain ⟨e9, hR⟩ := Prod.mk.inj hR
    have eu1 := hR
    replace hP : va_P (dC, dI) vwCl (fl [(w_X5 ad (b1) cs u1)]) H5 := by rw [← eu1]; exact hP
    replace hD : va_D A (fl [(w_X5 ad (b1) cs u1)]) := by rw [← eu1]; exact hD
    exact W.iret hx hb hr (fun t ht hW => ⟨⟨_, (), rfl, e9, by rw [ht]; exact hP, va_K.moved hW.alike hK, hD⟩, hS.F ht⟩) hS.2.2 dX5_handOver_23
  · replace hR := it_f hR c8
    refine lv_aload_n hx hb dX5_handOver_11 rfl (lv_at hl 0 rfl) ?_
    refine va_get (D := (dC, dI)) (ci := 4) (v := .ref (ad (b1 + 6))) (C := RX5) (T := TX5) (N := 6) hx hb hts hinX5 hown hK hP 0 rfl rfl 1 (by decide) hF21 (fun _ h9 => h9) rfl dX5_handOver_12 ?_
    refine lv_iload_n hx hb dX5_handOver_15 rfl (lv_at hl 2 rfl) ?_
    replace hR := bd_e hR
    obtain ⟨q16, gq16, hR⟩ := hR
    replace hP : va_P (dC, dI) vwCl (fl [[((ad b1), .inr (4, [.ref (ad (b1 + 1)), .ref (ad (b1 + 6)), .ref (ad (b1 + 13)), .ref (ad (b1 + 23)), .ref (ad (b1 + 27)), .int (S1 4 1 0)]))], (w_X6 ad (b1 + 1) cs (S1 0)), (w_X1 ad (b1 + 6) cs (S1 1)), (w_X4 ad (b1 + 13) cs (S1 2)), (w_X8 ad (b1 + 23) cs (S1 3)), [((ad (b1 + 27)), .inl (cs 0, 3, .inl (S1 4 0)))]]) H5 := hP
    replace hD : va_D A (fl [[((ad b1), .inr (4, [.ref (ad (b1 + 1)), .ref (ad (b1 + 6)), .ref (ad (b1 + 13)), .ref (ad (b1 + 23)), .ref (ad (b1 + 27)), .int (S1 4 1 0)]))], (w_X6 ad (b1 + 1) cs (S1 0)), (w_X1 ad (b1 + 6) cs (S1 1)), (w_X4 ad (b1 + 13) cs (S1 2)), (w_X8 ad (b1 + 23) cs (S1 3)), [((ad (b1 + 27)), .inl (cs 0, 3, .inl (S1 4 0)))]]) := hD
    refine cl_Vi (As := [.int p2]) (rest := []) (L := [[((ad b1), .inr (4, [.ref (ad (b1 + 1)), .ref (ad (b1 + 6)), .ref (ad (b1 + 13)), .ref (ad (b1 + 23)), .ref (ad (b1 + 27)), .int (S1 4 1 0)]))], (w_X6 ad (b1 + 1) cs (S1 0)), (w_X1 ad (b1 + 6) cs (S1 1)), (w_X4 ad (b1 + 13) cs (S1 2)), (w_X8 ad (b1 + 23) cs (S1 3)), [((ad (b1 + 27)), .inl (cs 0, 3, .inl (S1 4 0)))]]) (L' := [[((ad b1), .inr (4, [.ref (ad (b1 + 1)), .ref (ad (b1 + 6)), .ref (ad (b1 + 13)), .ref (ad (b1 + 23)), .ref (ad (b1 + 27)), .int (S1 4 1 0)]))], (w_X6 ad (b1 + 1) cs (S1 0)), (w_X1 ad (b1 + 6) cs (S1 1)), (w_X4 ad (b1 + 13) cs (S1 2)), (w_X8 ad (b1 + 23) cs (S1 3)), [((ad (b1 + 27)), .inl (cs 0, 3, .inl (S1 4 0)))]]) (Wc := [(w_X1 ad (b1 + 6) cs (S1 1))]) (Wc' := [(w_X1 ad (b1 + 6) cs (S1 1))]) (is := [2]) (js := [0, 1, 3, 4, 5]) ⟨hx, hb, hml, hown, hts⟩ (k_X1_has l dC dI cs ad (b1 + 6) H5.size (S1 1) p2 q16 gq16) (cwV 1 hts gX5_handOver_X1_has rfl rfl rfl cd_X1_has ⟨Nat.le_of_ble_eq_true rfl, Nat.le_of_ble_eq_true rfl⟩) hK hP hD hS hA ⟨rfl, rfl, rfl, rfl, rfl, rfl⟩ (jn_nd (is := [2]) hD rfl rfl) 6 0 rfl rfl rfl rfl rfl hl.1 (Nat.le_of_ble_eq_true rfl) dX5_handOver_16 (fun H16 locs16 hP' hD' hS' => ?_)
    replace hS := hS'
    replace hP : va_P (dC, dI) vwCl (fl [(w_X5 ad (b1) cs S1)]) H16 := hP'
    replace hD : va_D A (fl [(w_X5 ad (b1) cs S1)]) := hD'
    clear hP' hD' hS'
    refine lv_if_ne (tgt := 24) hx hb dX5_handOver_19 (by decide) (fun c19 => ?_) (fun c19 => ?_)
    · replace hR := it_f hR c19
      refine lv_aload_n hx hb dX5_handOver_24 rfl (lv_at hl 0 rfl) ?_
      refine lv_iload_n hx hb dX5_handOver_25 rfl (lv_at hl 1 rfl) ?_
      refine lv_iload_n hx hb dX5_handOver_26 rfl (lv_at hl 2 rfl) ?_
      replace hR := bd_e hR
      obtain ⟨q27, gq27, hR⟩ := hR
      refine cl_Vi (As := [.int p1, .int p2]) (rest := []) (L := [(w_X5 ad (b1) cs S1)]) (L' := [(w_X5 ad (b1) cs S1)]) (Wc := [(w_X5 ad (b1) cs S1)]) (Wc' := [(w_X5 ad (b1) cs S1)]) (is := [0]) (js := []) ⟨hx, hb, hml, hown, hts⟩ (k_X5_canHandOut l dC dI cs ad (b1) H16.size S1 p1 p2 q27 gq27) (cwV 2 hts gX5_handOver_X5_canHandOut rfl rfl rfl cd_X5_canHandOut ⟨Nat.le_of_ble_eq_true rfl, Nat.le_of_ble_eq_true rfl⟩) hK hP hD hS hA ⟨rfl, rfl, rfl, rfl, rfl, rfl⟩ (jn_nd (is := [0]) hD rfl rfl) 0 4 rfl rfl rfl rfl rfl hl.1 (Nat.le_of_ble_eq_true rfl) dX5_handOver_27 (fun H27 locs27 hP' hD' hS' => ?_)
      replace hS := hS'
      replace hP : va_P (dC, dI) vwCl (fl [(w_X5 ad (b1) cs S1)]) H27 := hP'
      replace hD : va_D A (fl [(w_X5 ad (b1) cs S1)]) := hD'
      clear hP' hD' hS'
      refine lv_if_eq (tgt := 45) hx hb dX5_handOver_30 (by decide) (fun c30 => ?_) (fun c30 => ?_)
      · replace hR := it_t hR c30
        refine lv_bipush (v := (-2)) hx hb dX5_handOver_45 bp_m2 ?_
        replace hR := Option.some.inj hR
        obtain ⟨e9, hR⟩ := Prod.mk.inj hR
        have eu1 := hR
        replace hP : va_P (dC, dI) vwCl (fl [(w_X5 ad (b1) cs u1)]) H27 := by rw [← eu1]; exact hP
        replace hD : va_D A (fl [(w_X5 ad (b1) cs u1)]) := by rw [← eu1]; exact hD
        exact W.iret hx hb hr (fun t ht hW => ⟨⟨_, (), rfl, e9, by rw [ht]; exact hP, va_K.moved hW.alike hK, hD⟩, hS.F ht⟩) hS.2.2 dX5_handOver_47
      · replace hR := it_f hR c30
        refine lv_aload_n hx hb dX5_handOver_33 rfl (lv_at hl 0 rfl) ?_
        refine va_get (D := (dC, dI)) (ci := 4) (v := .ref (ad (b1 + 23))) (C := RX5) (T := TX5) (N := 6) hx hb hts hinX5 hown hK hP 0 rfl rfl 3 (by decide) hF35 (fun _ h9 => h9) rfl dX5_handOver_34 ?_
        refine va_get (D := (dC, dI)) (ci := 7) (v := .ref (ad (b1 + 23 + 1))) (C := RX8) (T := TX8) (N := 4) hx hb hts hinX8 hown hK hP 23 rfl rfl 1 (by decide) hF157 (fun _ h9 => h9) rfl dX5_handOver_37 ?_
        refine lv_iload_n hx hb dX5_handOver_40 rfl (lv_at hl 1 rfl) ?_
        replace hR := gi_e hR
        obtain ⟨i41, hR⟩ := hR
        refine va_iald hx hb hK hP 24 0 rfl rfl i41 dX5_handOver_41 ?_
        refine lv_if_eq (tgt := 48) hx hb dX5_handOver_42 (by decide) (fun c42 => ?_) (fun c42 => ?_)
        · replace hR := it_t hR c42
          refine lv_aload_n hx hb dX5_handOver_48 rfl (lv_at hl 0 rfl) ?_
          refine va_get (D := (dC, dI)) (ci := 4) (v := .ref (ad (b1 + 6))) (C := RX5) (T := TX5) (N := 6) hx hb hts hinX5 hown hK hP 0 rfl rfl 1 (by decide) hF21 (fun _ h9 => h9) rfl dX5_handOver_49 ?_
          refine lv_iload_n hx hb dX5_handOver_52 rfl (lv_at hl 2 rfl) ?_
          refine lv_iconst (v := 3) hx hb dX5_handOver_53 ic_3 ?_
          refine lv_iconst (v := (-1)) hx hb dX5_handOver_54 ic_m1 ?_
          replace hR := bd_e hR
          obtain ⟨q55, gq55, hR⟩ := hR
          replace hP : va_P (dC, dI) vwCl (fl [[((ad b1), .inr (4, [.ref (ad (b1 + 1)), .ref (ad (b1 + 6)), .ref (ad (b1 + 13)), .ref (ad (b1 + 23)), .ref (ad (b1 + 27)), .int (S1 4 1 0)]))], (w_X6 ad (b1 + 1) cs (S1 0)), (w_X1 ad (b1 + 6) cs (S1 1)), (w_X4 ad (b1 + 13) cs (S1 2)), (w_X8 ad (b1 + 23) cs (S1 3)), [((ad (b1 + 27)), .inl (cs 0, 3, .inl (S1 4 0)))]]) H27 := hP
          replace hD : va_D A (fl [[((ad b1), .inr (4, [.ref (ad (b1 + 1)), .ref (ad (b1 + 6)), .ref (ad (b1 + 13)), .ref (ad (b1 + 23)), .ref (ad (b1 + 27)), .int (S1 4 1 0)]))], (w_X6 ad (b1 + 1) cs (S1 0)), (w_X1 ad (b1 + 6) cs (S1 1)), (w_X4 ad (b1 + 13) cs (S1 2)), (w_X8 ad (b1 + 23) cs (S1 3)), [((ad (b1 + 27)), .inl (cs 0, 3, .inl (S1 4 0)))]]) := hD
          refine cl_Vv (As := [.int p2, .int (3 : Int32), .int (-1)]) (rest := []) (L := [[((ad b1), .inr (4, [.ref (ad (b1 + 1)), .ref (ad (b1 + 6)), .ref (ad (b1 + 13)), .ref (ad (b1 + 23)), .ref (ad (b1 + 27)), .int (S1 4 1 0)]))], (w_X6 ad (b1 + 1) cs (S1 0)), (w_X1 ad (b1 + 6) cs (S1 1)), (w_X4 ad (b1 + 13) cs (S1 2)), (w_X8 ad (b1 + 23) cs (S1 3)), [((ad (b1 + 27)), .inl (cs 0, 3, .inl (S1 4 0)))]]) (L' := [[((ad b1), .inr (4, [.ref (ad (b1 + 1)), .ref (ad (b1 + 6)), .ref (ad (b1 + 13)), .ref (ad (b1 + 23)), .ref (ad (b1 + 27)), .int ((sU S1 1 q55) 4 1 0)]))], (w_X6 ad (b1 + 1) cs ((sU S1 1 q55) 0)), (w_X1 ad (b1 + 6) cs ((sU S1 1 q55) 1)), (w_X4 ad (b1 + 13) cs ((sU S1 1 q55) 2)), (w_X8 ad (b1 + 23) cs ((sU S1 1 q55) 3)), [((ad (b1 + 27)), .inl (cs 0, 3, .inl ((sU S1 1 q55) 4 0)))]]) (Wc := [(w_X1 ad (b1 + 6) cs (S1 1))]) (Wc' := [(w_X1 ad (b1 + 6) cs q55)]) (is := [2]) (js := [0, 1, 3, 4, 5]) ⟨hx, hb, hml, hown, hts⟩ (k_X1_bring l dC dI cs ad (b1 + 6) H27.size (S1 1) p2 (3 : Int32) (-1) q55 gq55) (cwV 3 hts gX5_handOver_X1_bring rfl rfl rfl cd_X1_bring ⟨Nat.le_of_ble_eq_true rfl, Nat.le_of_ble_eq_true rfl⟩) hK hP hD hS hA ⟨rfl, rfl, rfl, rfl, rfl, rfl⟩ (jn_nd (is := [2]) hD rfl rfl) 6 0 rfl rfl rfl rfl rfl hl.1 (Nat.le_of_ble_eq_true rfl) dX5_handOver_55 (fun H55 locs55 hP' hD' hS' => ?_)
          replace hS := hS'
          have hP' : va_P (dC, dI) vwCl (fl [(w_X5 ad (b1) cs (sU S1 1 q55))]) H55 := hP'
          have hD' : va_D A (fl [(w_X5 ad (b1) cs (sU S1 1 q55))]) := hD'
          replace hR := bn_e hR
          obtain ⟨S1_55, eS1_55, hR⟩ := hR
          replace hP : va_P (dC, dI) vwCl (fl [(w_X5 ad (b1) cs S1_55)]) H55 := by rw [eS1_55]; exact hP'
          replace hD : va_D A (fl [(w_X5 ad (b1) cs S1_55)]) := by rw [eS1_55]; exact hD'
          clear hP' hD' hS'
          refine lv_aload_n hx hb dX5_handOver_58 rfl (lv_at hl 0 rfl) ?_
          refine va_get (D := (dC, dI)) (ci := 4) (v := .ref (ad (b1 + 6))) (C := RX5) (T := TX5) (N := 6) hx hb hts hinX5 hown hK hP 0 rfl rfl 1 (by decide) hF21 (fun _ h9 => h9) rfl dX5_handOver_59 ?_
          refine va_get (D := (dC, dI)) (ci := 0) (v := .ref (ad (b1 + 6 + 6))) (C := RX1) (T := TX1) (N := 7) hx hb hts hinX1 hown hK hP 6 rfl rfl 6 (by decide) hF180 (fun _ h9 => h9) rfl dX5_handOver_62 ?_
          refine lv_iload_n hx hb dX5_handOver_65 rfl (lv_at hl 2 rfl) ?_
          refine lv_aload_n hx hb dX5_handOver_66 rfl (lv_at hl 0 rfl) ?_
          refine va_get (D := (dC, dI)) (ci := 4) (v := .int (S1_55 4 1 0)) (C := RX5) (T := TX5) (N := 6) hx hb hts hinX5 hown hK hP 0 rfl rfl 5 (by decide) hF62 (fun _ h9 => h9) rfl dX5_handOver_67 ?_
          refine lv_aload_n hx hb dX5_handOver_70 rfl (lv_at hl 0 rfl) ?_
          refine va_get (D := (dC, dI)) (ci := 4) (v := .ref (ad (b1 + 27))) (C := RX5) (T := TX5) (N := 6) hx hb hts hinX5 hown hK hP 0 rfl rfl 4 (by decide) hF39 (fun _ h9 => h9) rfl dX5_handOver_71 ?_
          refine lv_iconst (v := 1) hx hb dX5_handOver_74 ic_1 ?_
          refine va_iald hx hb hK hP 27 0 rfl rfl vi_1_3 dX5_handOver_75 ?_
          refine lv_iadd hx hb dX5_handOver_76 ?_
          replace hR := gi_e hR
          obtain ⟨i77, hR⟩ := hR
          refine va_iast hx hb hK hP hD hS 12 0 rfl rfl i77 dX5_handOver_77 (fun H77 locs77 hP' hD' hS' => ?_)
          replace hS := hS'
          have hP' : va_P (dC, dI) vwCl (fl [(w_X5 ad (b1) cs (sU S1_55 1 (sU (S1_55 1) 5 (sU (S1_55 1 5) p2.toNatClampNeg ((S1_55 4 1 0) + (S1_55 4 0 (1 : Int32).toNatClampNeg))))))]) H77 := hP'
          have hD' : va_D A (fl [(w_X5 ad (b1) cs (sU S1_55 1 (sU (S1_55 1) 5 (sU (S1_55 1 5) p2.toNatClampNeg ((S1_55 4 1 0) + (S1_55 4 0 (1 : Int32).toNatClampNeg))))))]) := hD'
          replace hR := bn_e hR
          obtain ⟨S1_77, eS1_77, hR⟩ := hR
          replace hP : va_P (dC, dI) vwCl (fl [(w_X5 ad (b1) cs S1_77)]) H77 := by rw [eS1_77]; exact hP'
          replace hD : va_D A (fl [(w_X5 ad (b1) cs S1_77)]) := by rw [eS1_77]; exact hD'
          clear hP' hD' hS'
          refine lv_aload_n hx hb dX5_handOver_78 rfl (lv_at hl 0 rfl) ?_
          refine va_get (D := (dC, dI)) (ci := 4) (v := .ref (ad (b1 + 6))) (C := RX5) (T := TX5) (N := 6) hx hb hts hinX5 hown hK hP 0 rfl rfl 1 (by decide) hF21 (fun _ h9 => h9) rfl dX5_handOver_79 ?_
          refine va_get (D := (dC, dI)) (ci := 0) (v := .ref (ad (b1 + 6 + 6))) (C := RX1) (T := TX1) (N := 7) hx hb hts hinX1 hown hK hP 6 rfl rfl 6 (by decide) hF180 (fun _ h9 => h9) rfl dX5_handOver_82 ?_
          refine lv_iload_n hx hb dX5_handOver_85 rfl (lv_at hl 2 rfl) ?_
          replace hR := gi_e hR
          obtain ⟨i86, hR⟩ := hR
          refine va_iald hx hb hK hP 12 0 rfl rfl i86 dX5_handOver_86 ?_
          replace hR := Option.some.inj hR
          obtain ⟨e9, hR⟩ := Prod.mk.inj hR
          have eu1 := hR
          replace hP : va_P (dC, dI) vwCl (fl [(w_X5 ad (b1) cs u1)]) H77 := by rw [← eu1]; exact hP
          replace hD : va_D A (fl [(w_X5 ad (b1) cs u1)]) := by rw [← eu1]; exact hD
          exact W.iret hx hb hr (fun t ht hW => ⟨⟨_, (), rfl, e9, by rw [ht]; exact hP, va_K.moved hW.alike hK, hD⟩, hS.F ht⟩) hS.2.2 dX5_handOver_87
        · replace hR := it_f hR c42
          refine lv_bipush (v := (-2)) hx hb dX5_handOver_45 bp_m2 ?_
          replace hR := Option.some.inj hR
          obtain ⟨e9, hR⟩ := Prod.mk.inj hR
          have eu1 := hR
          replace hP : va_P (dC, dI) vwCl (fl [(w_X5 ad (b1) cs u1)]) H27 := by rw [← eu1]; exact hP
          replace hD : va_D A (fl [(w_X5 ad (b1) cs u1)]) := by rw [← eu1]; exact hD
          exact W.iret hx hb hr (fun t ht hW => ⟨⟨_, (), rfl, e9, by rw [ht]; exact hP, va_K.moved hW.alike hK, hD⟩, hS.F ht⟩) hS.2.2 dX5_handOver_47
    · replace hR := it_t hR c19
      refine lv_iconst (v := (-1)) hx hb dX5_handOver_22 ic_m1 ?_
      replace hR := Option.some.inj hR
      obtain ⟨e9, hR⟩ := Prod.mk.inj hR
      have eu1 := hR
      replace hP : va_P (dC, dI) vwCl (fl [(w_X5 ad (b1) cs u1)]) H16 := by rw [← eu1]; exact hP
      replace hD : va_D A (fl [(w_X5 ad (b1) cs u1)]) := by rw [← eu1]; exact hD
      exact W.iret hx hb hr (fun t ht hW => ⟨⟨_, (), rfl, e9, by rw [ht]; exact hP, va_K.moved hW.alike hK, hD⟩, hS.F ht⟩) hS.2.2 dX5_handOver_23
