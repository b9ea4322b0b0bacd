set_option maxHeartbeats 8000000 in
set_option maxRecDepth 100000 in
theorem k_X11_mend (l : Launch) (dC : Nat → ClassId) (dI : Nat → Nat → Nat) (cs : Nat → ClassId) (ad : Nat → Nat) (b1 : Nat) (sz : Nat) (S1 : T2) (p1 : Int32) (p2 : Int32) (r : Int32) (u1 : T2) (hR : fX11_mend S1 p1 p2 = some (r, u1)) : Met l yX11_mend wsX11_mend ({ frames := 2, cells := 0, slots := 0, locals := 45 } : Room) (va_Pc [.ref (ad b1), .int p1, .int p2] (pW dC dI (tyL cs) (fl [(w_X11 ad (b1) cs S1)]) sz)) (QI dC dI (tyL cs) (va_A (fl [(w_X11 ad (b1) cs S1)]) sz) (fl [(w_X11 ad (b1) cs u1)]) r) 0 0 (va_A (fl [(w_X11 ad (b1) cs S1)]) sz) := by
  refine mt_of (own := RX11) (cc := cX11_mend) (maxL := 3) (ret := (some .int)) (Qc := fun A => QI dC dI (tyL cs) A (fl [(w_X11 ad (b1) cs u1)]) r) rfl (by decide) rfl (Nat.le_of_ble_eq_true rfl) (fun p e s m below meth c A ls hsz hx hb hr hts hown hlocks hml hA hK hP hD hS hl => ?_)
  subst hsz
  have hl : lv_has ls 3 [(0, .ref (ad b1)), (1, .int p1), (2, .int p2)] := hl
  have hF7 := hts (.fieldLink RX11 7 "DockedBikesModel" "s" "[I") (List.mem_of_getElem? (i := 1) rfl)
  have hinX11 : ∀ w ∈ wsX110, w ∈ wsX11_mend := by decide +kernel
  refine lv_aload_n hx hb dX11_mend_0 rfl (lv_at hl 0 rfl) ?_
  refine lv_iload_n hx hb dX11_mend_1 rfl (lv_at hl 1 rfl) ?_
  replace hR := bd_e hR
  obtain ⟨q2, gq2, hR⟩ := hR
  refine cl_Vi (As := [.int p1]) (rest := []) (L := [(w_X11 ad (b1) cs S1)]) (L' := [(w_X11 ad (b1) cs S1)]) (Wc := [(w_X11 ad (b1) cs S1)]) (Wc' := [(w_X11 ad (b1) cs S1)]) (is := [0]) (js := []) ⟨hx, hb, hml, hown, hts⟩ (k_X11_isVan l dC dI cs ad (b1) s.heap.size S1 p1 q2 gq2) (cwV 1 hts gX11_mend_X11_isVan rfl rfl rfl cd_X11_isVan ⟨Nat.le_of_ble_eq_true rfl, Nat.le_of_ble_eq_true rfl⟩) hK hP hD hS hA ⟨rfl, rfl, rfl, rfl, rfl, rfl⟩ (jn_nd (is := [0]) hD rfl rfl) 0 9 rfl rfl rfl rfl rfl hl.1 (Nat.le_of_ble_eq_true rfl) dX11_mend_2 (fun H2 locs2 hP' hD' hS' => ?_)
  replace hS := hS'
  replace hP : va_P (dC, dI) vwCl (fl [(w_X11 ad (b1) cs S1)]) H2 := hP'
  replace hD : va_D A (fl [(w_X11 ad (b1) cs S1)]) := hD'
  clear hP' hD' hS'
  refine lv_if_eq (tgt := 16) hx hb dX11_mend_5 (by decide) (fun c5 => ?_) (fun c5 => ?_)
  · replace hR := it_t hR c5
    refine lv_iconst (v := (-1)) hx hb dX11_mend_16 ic_m1 ?_
    replace hR := Option.some.inj hR
    obtain ⟨e9, hR⟩ := Prod.mk.inj hR
    have eu1 := hR
    replace hP : va_P (dC, dI) vwCl (fl [(w_X11 ad (b1) cs u1)]) H2 := by rw [← eu1]; exact hP
    replace hD : va_D A (fl [(w_X11 ad (b1) cs u1)]) := by rw [← eu1]; exact hD
    exact W.iret hx hb hr (fun t ht hW => ⟨⟨_, (), rfl, e9, by rw [ht]; exact hP, va_K.moved hW.alike hK, hD⟩, hS.F ht⟩) hS.2.2 dX11_mend_17
  · replace hR := it_f hR c5
    refine lv_aload_n hx hb dX11_mend_8 rfl (lv_at hl 0 rfl) ?_
    refine lv_iload_n hx hb dX11_mend_9 rfl (lv_at hl 2 rfl) ?_
    replace hR := bd_e hR
    obtain ⟨q10, gq10, hR⟩ := hR
    refine cl_Vi (As := [.int p2]) (rest := []) (L := [(w_X11 ad (b1) cs S1)]) (L' := [(w_X11 ad (b1) cs S1)]) (Wc := [(w_X11 ad (b1) cs S1)]) (Wc' := [(w_X11 ad (b1) cs S1)]) (is := [0]) (js := []) ⟨hx, hb, hml, hown, hts⟩ (k_X11_isBicycle l dC dI cs ad (b1) H2.size S1 p2 q10 gq10) (cwV 1 hts gX11_mend_X11_isBicycle rfl rfl rfl cd_X11_isBicycle ⟨Nat.le_of_ble_eq_true rfl, Nat.le_of_ble_eq_true rfl⟩) hK hP hD hS hA ⟨rfl, rfl, rfl, rfl, rfl, rfl⟩ (jn_nd (is := [0]) hD rfl rfl) 0 9 rfl rfl rfl rfl rfl hl.1 (Nat.le_of_ble_eq_true rfl) dX11_mend_10 (fun H10 locs10 hP' hD' hS' => ?_)
    replace hS := hS'
    replace hP : va_P (dC, dI) vwCl (fl [(w_X11 ad (b1) cs S1)]) H10 := hP'
    replace hD : va_D A (fl [(w_X11 ad (b1) cs S1)]) := hD'
    clear hP' hD' hS'
    refine lv_if_ne (tgt := 18) hx hb dX11_mend_13 (by decide) (fun c13 => ?_) (fun c13 => ?_)
    · replace hR := it_f hR c13
      refine lv_aload_n hx hb dX11_mend_18 rfl (lv_at hl 0 rfl) ?_
      refine lv_iload_n hx hb dX11_mend_19 rfl (lv_at hl 1 rfl) ?_
      replace hR := bd_e hR
      obtain ⟨q20, gq20, hR⟩ := hR
      refine cl_Vi (As := [.int p1]) (rest := []) (L := [(w_X11 ad (b1) cs S1)]) (L' := [(w_X11 ad (b1) cs S1)]) (Wc := [(w_X11 ad (b1) cs S1)]) (Wc' := [(w_X11 ad (b1) cs S1)]) (is := [0]) (js := []) ⟨hx, hb, hml, hown, hts⟩ (k_X11_isUnderWay l dC dI cs ad (b1) H10.size S1 p1 q20 gq20) (cwV 1 hts gX11_mend_X11_isUnderWay rfl rfl rfl cd_X11_isUnderWay ⟨Nat.le_of_ble_eq_true rfl, Nat.le_of_ble_eq_true rfl⟩) hK hP hD hS hA ⟨rfl, rfl, rfl, rfl, rfl, rfl⟩ (jn_nd (is := [0]) hD rfl rfl) 0 9 rfl rfl rfl rfl rfl hl.1 (Nat.le_of_ble_eq_true rfl) dX11_mend_20 (fun H20 locs20 hP' hD' hS' => ?_)
      replace hS := hS'
      replace hP : va_P (dC, dI) vwCl (fl [(w_X11 ad (b1) cs S1)]) H20 := hP'
      replace hD : va_D A (fl [(w_X11 ad (b1) cs S1)]) := hD'
      clear hP' hD' hS'
      refine lv_if_ne (tgt := 45) hx hb dX11_mend_23 (by decide) (fun c23 => ?_) (fun c23 => ?_)
      · replace hR := it_f hR c23
        refine lv_bipush (v := (-2)) hx hb dX11_mend_45 bp_m2 ?_
        replace hR := Option.some.inj hR
        obtain ⟨e9, hR⟩ := Prod.mk.inj hR
        have eu1 := hR
        replace hP : va_P (dC, dI) vwCl (fl [(w_X11 ad (b1) cs u1)]) H20 := by rw [← eu1]; exact hP
        replace hD : va_D A (fl [(w_X11 ad (b1) cs u1)]) := by rw [← eu1]; exact hD
        exact W.iret hx hb hr (fun t ht hW => ⟨⟨_, (), rfl, e9, by rw [ht]; exact hP, va_K.moved hW.alike hK, hD⟩, hS.F ht⟩) hS.2.2 dX11_mend_47
      · replace hR := it_t hR c23
        refine lv_aload_n hx hb dX11_mend_26 rfl (lv_at hl 0 rfl) ?_
        refine lv_iload_n hx hb dX11_mend_27 rfl (lv_at hl 1 rfl) ?_
        refine lv_iconst (v := 0) hx hb dX11_mend_28 ic_0 ?_
        replace hR := bd_e hR
        obtain ⟨q29, gq29, hR⟩ := hR
        refine cl_Vi (As := [.int p1, .int (0 : Int32)]) (rest := []) (L := [(w_X11 ad (b1) cs S1)]) (L' := [(w_X11 ad (b1) cs S1)]) (Wc := [(w_X11 ad (b1) cs S1)]) (Wc' := [(w_X11 ad (b1) cs S1)]) (is := [0]) (js := []) ⟨hx, hb, hml, hown, hts⟩ (k_X11_ofVan l dC dI cs ad (b1) H20.size S1 p1 (0 : Int32) q29 gq29) (cwV 2 hts gX11_mend_X11_ofVan rfl rfl rfl cd_X11_ofVan ⟨Nat.le_of_ble_eq_true rfl, Nat.le_of_ble_eq_true rfl⟩) hK hP hD hS hA ⟨rfl, rfl, rfl, rfl, rfl, rfl⟩ (jn_nd (is := [0]) hD rfl rfl) 0 9 rfl rfl rfl rfl rfl hl.1 (Nat.le_of_ble_eq_true rfl) dX11_mend_29 (fun H29 locs29 hP' hD' hS' => ?_)
        replace hS := hS'
        replace hP : va_P (dC, dI) vwCl (fl [(w_X11 ad (b1) cs S1)]) H29 := hP'
        replace hD : va_D A (fl [(w_X11 ad (b1) cs S1)]) := hD'
        clear hP' hD' hS'
        refine lv_if_ne (tgt := 45) hx hb dX11_mend_32 (by decide) (fun c32 => ?_) (fun c32 => ?_)
        · replace hR := it_f hR c32
          refine lv_bipush (v := (-2)) hx hb dX11_mend_45 bp_m2 ?_
          replace hR := Option.some.inj hR
          obtain ⟨e9, hR⟩ := Prod.mk.inj hR
          have eu1 := hR
          replace hP : va_P (dC, dI) vwCl (fl [(w_X11 ad (b1) cs u1)]) H29 := by rw [← eu1]; exact hP
          replace hD : va_D A (fl [(w_X11 ad (b1) cs u1)]) := by rw [← eu1]; exact hD
          exact W.iret hx hb hr (fun t ht hW => ⟨⟨_, (), rfl, e9, by rw [ht]; exact hP, va_K.moved hW.alike hK, hD⟩, hS.F ht⟩) hS.2.2 dX11_mend_47
        · replace hR := it_t hR c32
          refine lv_aload_n hx hb dX11_mend_35 rfl (lv_at hl 0 rfl) ?_
          refine lv_iload_n hx hb dX11_mend_36 rfl (lv_at hl 2 rfl) ?_
          refine lv_iconst (v := 2) hx hb dX11_mend_37 ic_2 ?_
          refine lv_iload_n hx hb dX11_mend_38 rfl (lv_at hl 1 rfl) ?_
          replace hR := bd_e hR
          obtain ⟨q39, gq39, hR⟩ := hR
          refine cl_Vi (As := [.int p2, .int (2 : Int32), .int p1]) (rest := []) (L := [(w_X11 ad (b1) cs S1)]) (L' := [(w_X11 ad (b1) cs S1)]) (Wc := [(w_X11 ad (b1) cs S1)]) (Wc' := [(w_X11 ad (b1) cs S1)]) (is := [0]) (js := []) ⟨hx, hb, hml, hown, hts⟩ (k_X11_isAt l dC dI cs ad (b1) H29.size S1 p2 (2 : Int32) p1 q39 gq39) (cwV 3 hts gX11_mend_X11_isAt rfl rfl rfl cd_X11_isAt ⟨Nat.le_of_ble_eq_true rfl, Nat.le_of_ble_eq_true rfl⟩) hK hP hD hS hA ⟨rfl, rfl, rfl, rfl, rfl, rfl⟩ (jn_nd (is := [0]) hD rfl rfl) 0 9 rfl rfl rfl rfl rfl hl.1 (Nat.le_of_ble_eq_true rfl) dX11_mend_39 (fun H39 locs39 hP' hD' hS' => ?_)
          replace hS := hS'
          replace hP : va_P (dC, dI) vwCl (fl [(w_X11 ad (b1) cs S1)]) H39 := hP'
          replace hD : va_D A (fl [(w_X11 ad (b1) cs S1)]) := hD'
          clear hP' hD' hS'
          refine lv_if_ne (tgt := 48) hx hb dX11_mend_42 (by decide) (fun c42 => ?_) (fun c42 => ?_)
          · replace hR := it_f hR c42
            refine lv_aload_n hx hb dX11_mend_48 rfl (lv_at hl 0 rfl) ?_
            replace hR := bd_e hR
            obtain ⟨q49, gq49, hR⟩ := hR
            refine cl_Vv (As := []) (rest := []) (L := [(w_X11 ad (b1) cs S1)]) (L' := [(w_X11 ad (b1) cs q49)]) (Wc := [(w_X11 ad (b1) cs S1)]) (Wc' := [(w_X11 ad (b1) cs q49)]) (is := [0]) (js := []) ⟨hx, hb, hml, hown, hts⟩ (k_X11_changes l dC dI cs ad (b1) H39.size S1 q49 gq49) (cwV 0 hts gX11_mend_X11_changes rfl rfl rfl cd_X11_changes ⟨Nat.le_of_ble_eq_true rfl, Nat.le_of_ble_eq_true rfl⟩) hK hP hD hS hA ⟨rfl, rfl, rfl, rfl, rfl, rfl⟩ (jn_nd (is := [0]) hD rfl rfl) 0 9 rfl rfl rfl rfl rfl hl.1 (Nat.le_of_ble_eq_true rfl) dX11_mend_49 (fun H49 locs49 hP' hD' hS' => ?_)
            replace hS := hS'
            replace hP : va_P (dC, dI) vwCl (fl [(w_X11 ad (b1) cs q49)]) H49 := hP'
            replace hD : va_D A (fl [(w_X11 ad (b1) cs q49)]) := hD'
            clear hP' hD' hS'
            refine lv_aload_n hx hb dX11_mend_52 rfl (lv_at hl 0 rfl) ?_
            refine lv_iload_n hx hb dX11_mend_53 rfl (lv_at hl 2 rfl) ?_
            refine lv_iconst (v := 3) hx hb dX11_mend_54 ic_3 ?_
            refine lv_bipush (v := (-4)) hx hb dX11_mend_55 bp_m4 ?_
            replace hR := bd_e hR
            obtain ⟨q57, gq57, hR⟩ := hR
            refine cl_Vv (As := [.int p2, .int (3 : Int32), .int (-4)]) (rest := []) (L := [(w_X11 ad (b1) cs q49)]) (L' := [(w_X11 ad (b1) cs q57)]) (Wc := [(w_X11 ad (b1) cs q49)]) (Wc' := [(w_X11 ad (b1) cs q57)]) (is := [0]) (js := []) ⟨hx, hb, hml, hown, hts⟩ (k_X11_puts l dC dI cs ad (b1) H49.size q49 p2 (3 : Int32) (-4) q57 gq57) (cwV 3 hts gX11_mend_X11_puts rfl rfl rfl cd_X11_puts ⟨Nat.le_of_ble_eq_true rfl, Nat.le_of_ble_eq_true rfl⟩) hK hP hD hS hA ⟨rfl, rfl, rfl, rfl, rfl, rfl⟩ (jn_nd (is := [0]) hD rfl rfl) 0 9 rfl rfl rfl rfl rfl hl.1 (Nat.le_of_ble_eq_true rfl) dX11_mend_57 (fun H57 locs57 hP' hD' hS' => ?_)
            replace hS := hS'
            replace hP : va_P (dC, dI) vwCl (fl [(w_X11 ad (b1) cs q57)]) H57 := hP'
            replace hD : va_D A (fl [(w_X11 ad (b1) cs q57)]) := hD'
            clear hP' hD' hS'
            refine lv_aload_n hx hb dX11_mend_60 rfl (lv_at hl 0 rfl) ?_
            refine va_get (D := (dC, dI)) (ci := 9) (v := .ref (ad (b1 + 1))) (C := RX11) (T := TX11) (N := 14) hx hb hts hinX11 hown hK hP 0 rfl rfl 0 (by decide) hF7 (fun _ h9 => h9) rfl dX11_mend_61 ?_
            refine lv_bipush (v := 32) hx hb dX11_mend_64 bp_32 ?_
            refine lv_bipush (v := 6) hx hb dX11_mend_66 bp_6 ?_
            refine lv_iload_n hx hb dX11_mend_68 rfl (lv_at hl 2 rfl) ?_
            refine lv_imul hx hb dX11_mend_69 ?_
            refine lv_iadd hx hb dX11_mend_70 ?_
            refine lv_iconst (v := 5) hx hb dX11_mend_71 ic_5 ?_
            refine lv_iadd hx hb dX11_mend_72 ?_
            refine lv_aload_n hx hb dX11_mend_73 rfl (lv_at hl 0 rfl) ?_
            refine va_get (D := (dC, dI)) (ci := 9) (v := .ref (ad (b1 + 1))) (C := RX11) (T := TX11) (N := 14) hx hb hts hinX11 hown hK hP 0 rfl rfl 0 (by decide) hF7 (fun _ h9 => h9) rfl dX11_mend_74 ?_
            refine lv_iconst (v := 4) hx hb dX11_mend_77 ic_4 ?_
            refine va_iald hx hb hK hP 1 0 rfl rfl vi_4_206 dX11_mend_78 ?_
            refine lv_aload_n hx hb dX11_mend_79 rfl (lv_at hl 0 rfl) ?_
            refine va_get (D := (dC, dI)) (ci := 9) (v := .ref (ad (b1 + 1))) (C := RX11) (T := TX11) (N := 14) hx hb hts hinX11 hown hK hP 0 rfl rfl 0 (by decide) hF7 (fun _ h9 => h9) rfl dX11_mend_80 ?_
            refine lv_bipush (v := 6) hx hb dX11_mend_83 bp_6 ?_
            refine va_iald hx hb hK hP 1 0 rfl rfl vi_6_206 dX11_mend_85 ?_
            refine lv_iadd hx hb dX11_mend_86 ?_
            replace hR := gi_e hR
            obtain ⟨i87, hR⟩ := hR
            refine va_iast hx hb hK hP hD hS 1 0 rfl rfl i87 dX11_mend_87 (fun H87 locs87 hP' hD' hS' => ?_)
            replace hS := hS'
            have hP' : va_P (dC, dI) vwCl (fl [(w_X11 ad (b1) cs (sU q57 0 (sU (q57 0) (((32 : Int32) + ((6 : Int32) * p2)) + 5).toNatClampNeg ((q57 0 (4 : Int32).toNatClampNeg) + (q57 0 (6 : Int32).toNatClampNeg)))))]) H87 := hP'
            have hD' : va_D A (fl [(w_X11 ad (b1) cs (sU q57 0 (sU (q57 0) (((32 : Int32) + ((6 : Int32) * p2)) + 5).toNatClampNeg ((q57 0 (4 : Int32).toNatClampNeg) + (q57 0 (6 : Int32).toNatClampNeg)))))]) := hD'
            replace hR := bn_e hR
            obtain ⟨S1_87, eS1_87, hR⟩ := hR
            replace hP : va_P (dC, dI) vwCl (fl [(w_X11 ad (b1) cs S1_87)]) H87 := by rw [eS1_87]; exact hP'
            replace hD : va_D A (fl [(w_X11 ad (b1) cs S1_87)]) := by rw [eS1_87]; exact hD'
            clear hP' hD' hS'
            refine lv_aload_n hx hb dX11_mend_88 rfl (lv_at hl 0 rfl) ?_
            refine lv_iload_n hx hb dX11_mend_89 rfl (lv_at hl 2 rfl) ?_
            refine lv_iconst (v := 5) hx hb dX11_mend_90 ic_5 ?_
            replace hR := bd_e hR
            obtain ⟨q91, gq91, hR⟩ := hR
            refine cl_Vi (As := [.int p2, .int (5 : Int32)]) (rest := []) (L := [(w_X11 ad (b1) cs S1_87)]) (L' := [(w_X11 ad (b1) cs S1_87)]) (Wc := [(w_X11 ad (b1) cs S1_87)]) (Wc' := [(w_X11 ad (b1) cs S1_87)]) (is := [0]) (js := []) ⟨hx, hb, hml, hown, hts⟩ (k_X11_ofBicycle l dC dI cs ad (b1) H87.size S1_87 p2 (5 : Int32) q91 gq91) (cwV 2 hts gX11_mend_X11_ofBicycle rfl rfl rfl cd_X11_ofBicycle ⟨Nat.le_of_ble_eq_true rfl, Nat.le_of_ble_eq_true rfl⟩) hK hP hD hS hA ⟨rfl, rfl, rfl, rfl, rfl, rfl⟩ (jn_nd (is := [0]) hD rfl rfl) 0 9 rfl rfl rfl rfl rfl hl.1 (Nat.le_of_ble_eq_true rfl) dX11_mend_91 (fun H91 locs91 hP' hD' hS' => ?_)
            replace hS := hS'
            replace hP : va_P (dC, dI) vwCl (fl [(w_X11 ad (b1) cs S1_87)]) H91 := hP'
            replace hD : va_D A (fl [(w_X11 ad (b1) cs S1_87)]) := hD'
            clear hP' hD' hS'
            replace hR := Option.some.inj hR
            obtain ⟨e9, hR⟩ := Prod.mk.inj hR
            have eu1 := hR
            replace hP : va_P (dC, dI) vwCl (fl [(w_X11 ad (b1) cs u1)]) H91 := by rw [← eu1]; exact hP
            replace hD : va_D A (fl [(w_X11 ad (b1) cs u1)]) := by rw [← eu1]; exact hD
            exact W.iret hx hb hr (fun t ht hW => ⟨⟨_, (), rfl, e9, by rw [ht]; exact hP, va_K.moved hW.alike hK, hD⟩, hS.F ht⟩) hS.2.2 dX11_mend_94
          · replace hR := it_t hR c42
            refine lv_bipush (v := (-2)) hx hb dX11_mend_45 bp_m2 ?_
            replace hR := Option.some.inj hR
            obtain ⟨e9, hR⟩ := Prod.mk.inj hR
            have eu1 := hR
            replace hP : va_P (dC, dI) vwCl (fl [(w_X11 ad (b1) cs u1)]) H39 := by rw [← eu1]; exact hP
            replace hD : va_D A (fl [(w_X11 ad (b1) cs u1)]) := by rw [← eu1]; exact hD
            exact W.iret hx hb hr (fun t ht hW => ⟨⟨_, (), rfl, e9, by rw [ht]; exact hP, va_K.moved hW.alike hK, hD⟩, hS.F ht⟩) hS.2.2 dX11_mend_47
    · replace hR := it_t hR c13
      refine lv_iconst (v := (-1)) hx hb dX11_mend_16 ic_m1 ?_
      replace hR := Option.some.inj hR
      obtain ⟨e9, hR⟩ := Prod.mk.inj hR
      have eu1 := hR
      replace hP : va_P (dC, dI) vwCl (fl [(w_X11 ad (b1) cs u1)]) H10 := by rw [← eu1]; exact hP
      replace hD : va_D A (fl [(w_X11 ad (b1) cs u1)]) := by rw [← eu1]; exact hD
      exact W.iret hx hb hr (fun t ht hW => ⟨⟨_, (), rfl, e9, by rw [ht]; exact hP, va_K.moved hW.alike hK, hD⟩, hS.F ht⟩) hS.2.2 dX11_mend_17
set_option maxHeartbeats 8000000 in
set_option maxRecDepth 100000 in
theorem k_X11_freeStation (l : Launch) (dC : Nat → ClassId) (dI : Nat → Nat → Nat) (cs : Nat → ClassId) (ad : Nat → Nat) (b1 : Nat) (sz : Nat) (S1 : T2) (r : Int32) (hR : fX11_freeStation S1 = some r) : Met l yX11_freeStation wsX11_freeStation ({ frames := 4, cells := 0, slots := 0, locals := 88 } : Room) (va_Pc [.ref (ad b1)] (pW dC dI (tyL cs) (fl [(w_X11 ad (b1) cs S1)]) sz)) (QI dC dI (tyL cs) (va_A (fl [(w_X11 ad (b1) cs S1)]) sz) (fl [(w_X11 ad (b1) cs S1)]) r) 0 0 (va_A (fl [(w_X11 ad (b1) cs S1)]) sz) := by
  refine mt_of (own := RX11) (cc := cX11_freeStation) (maxL := 3) (ret := (some .int)) (Qc := fun A => QI dC dI (tyL cs) A (fl [(w_X11 ad (b1) cs S1)]) r) rfl (by decide) rfl (Nat.le_of_ble_eq_true rfl) (fun p e s m below meth c A ls hsz hx hb hr hts hown hlocks hml hA hK hP hD hS hl => ?_)
  subst hsz
  have hl : lv_has ls 3 [(0, .ref (ad b1))] := hl
  have hF7 := hts (.fieldLink RX11 7 "DockedBikesModel" "s" "[I") (List.mem_of_getElem? (i := 1) rfl)
  have hinX11 : ∀ w ∈ wsX110, w ∈ wsX11_freeStation := by decide +kernel
  have hB12 : ∀ (n12 : Nat), ∀ (v1_12 : Int32) (v2_12 : Int32) (H : Heap) (locs : List Loc) (ls : Array Slot), fX11_freeStation_12 S1 n12 v1_12 v2_12 = some r → va_P (dC, dI) vwCl (fl [(w_X11 ad (b1) cs S1)]) H → va_D A (fl [(w_X11 ad (b1) cs S1)]) → va_S A s.heap H locs → lv_has ls 3 [(0, .ref (ad b1)), (1, .int v1_12), (2, .int v2_12)] → W p l e (headSpec wsX11_freeStation ({ frames := 4, cells := 0, slots := 0, locals := 88 } : Room)).room s m ([.ref (ad b1)] : List Value).toArray below meth c H locs 0 0 (MQ below (QI dC dI (tyL cs) A (fl [(w_X11 ad (b1) cs S1)]) r) ([.ref (ad b1)] : List Value).toArray s 0 0 A) (F0 m 12 ls []) := by
    intro n12
    induction n12 with
    | zero =>
      intro v1_12 v2_12 H locs ls hR hP hD hS hl
      exact nn_e hR
    | succ n12 hI12 =>
      have hB29 : ∀ (v2_29 : Int32) (t0_29 : Int32) (H : Heap) (locs : List Loc) (ls : Array Slot), fX11_freeStation_29 (fX11_freeStation_12 S1 n12) S1 v2_29 t0_29 = some r → va_P (dC, dI) vwCl (fl [(w_X11 ad (b1) cs S1)]) H → va_D A (fl [(w_X11 ad (b1) cs S1)]) → va_S A s.heap H locs → lv_has ls 3 [(0, .ref (ad b1)), (2, .int v2_29)] → W p l e (headSpec wsX11_freeStation ({ frames := 4, cells := 0, slots := 0, locals := 88 } : Room)).room s m ([.ref (ad b1)] : List Value).toArray below meth c H locs 0 0 (MQ below (QI dC dI (tyL cs) A (fl [(w_X11 ad (b1) cs S1)]) r) ([.ref (ad b1)] : List Value).toArray s 0 0 A) (F0 m 29 ls [.int t0_29]) := by
        intro v2_29 t0_29 H locs ls hR hP hD hS hl
        refine lv_istore_n (lv' := [(1, .int t0_29), (0, .ref (ad b1)), (2, .int v2_29)]) hx hb dX11_freeStation_29 rfl hl (Nat.le_of_ble_eq_true rfl) rfl (fun ls hl => ?_)
        refine lv_iinc (v := (v2_29 + (-1))) (lv' := [(2, .int (v2_29 + (-1))), (1, .int t0_29), (0, .ref (ad b1))]) hx hb dX11_freeStation_30 hl (k := 2) rfl rfl (Nat.le_of_ble_eq_true rfl) rfl (fun ls hl => ?_)
        refine lv_goto (tgt := 12) hx hb dX11_freeStation_33 (by decide) ?_
        exact hI12 t0_29 (v2_29 + (-1)) H _ ls hR hP hD hS (lv_sub hl [2, 1, 0] rfl)
      intro v1_12 v2_12 H locs ls hR hP hD hS hl
      rw [fX11_freeStation_12] at hR
      refine lv_iload_n hx hb dX11_freeStation_12 rfl (lv_at hl 2 rfl) ?_
      refine lv_if_lt (tgt := 36) hx hb dX11_freeStation_13 (by decide) (fun c13 => ?_) (fun c13 => ?_)
      · replace hR := it_t hR c13
        refine lv_iload_n hx hb dX11_freeStation_36 rfl (lv_at hl 1 rfl) ?_
        replace hR := Option.some.inj hR
        have e9 := hR
        exact W.iret hx hb hr (fun t ht hW => ⟨⟨_, (), rfl, e9, by rw [ht]; exact hP, va_K.moved hW.alike hK, hD⟩, hS.F ht⟩) hS.2.2 dX11_freeStation_37
      · replace hR := it_f hR c13
        refine lv_aload_n hx hb dX11_freeStation_16 rfl (lv_at hl 0 rfl) ?_
        refine lv_iload_n hx hb dX11_freeStation_17 rfl (lv_at hl 2 rfl) ?_
        replace hR := bd_e hR
        obtain ⟨q18, gq18, hR⟩ := hR
        refine cl_Vi (As := [.int v2_12]) (rest := []) (L := [(w_X11 ad (b1) cs S1)]) (L' := [(w_X11 ad (b1) cs S1)]) (Wc := [(w_X11 ad (b1) cs S1)]) (Wc' := [(w_X11 ad (b1) cs S1)]) (is := [0]) (js := []) ⟨hx, hb, hml, hown, hts⟩ (k_X11_isFree l dC dI cs ad (b1) H.size S1 v2_12 q18 gq18) (cwV 1 hts gX11_freeStation_X11_isFree rfl rfl rfl cd_X11_isFree ⟨Nat.le_of_ble_eq_true rfl, Nat.le_of_ble_eq_true rfl⟩) hK hP hD hS hA ⟨rfl, rfl, rfl, rfl, rfl, rfl⟩ (jn_nd (is := [0]) hD rfl rfl) 0 9 rfl rfl rfl rfl rfl hl.1 (Nat.le_of_ble_eq_true rfl) dX11_freeStation_18 (fun H18 locs18 hP' hD' hS' => ?_)
        replace hS := hS'
        replace hP : va_P (dC, dI) vwCl (fl [(w_X11 ad (b1) cs S1)]) H18 := hP'
        replace hD : va_D A (fl [(w_X11 ad (b1) cs S1)]) := hD'
        clear hP' hD' hS'
        refine lv_if_eq (tgt := 28) hx hb dX11_freeStation_21 (by decide) (fun c21 => ?_) (fun c21 => ?_)
        · replace hR := it_t hR c21
          refine lv_iload_n hx hb dX11_freeStation_28 rfl (lv_at hl 1 rfl) ?_
          exact hB29 v2_12 v1_12 H18 _ ls hR hP hD hS (lv_sub hl [0, 2] rfl)
        · replace hR := it_f hR c21
          refine lv_iload_n hx hb dX11_freeStation_24 rfl (lv_at hl 2 rfl) ?_
          refine lv_goto (tgt := 29) hx hb dX11_freeStation_25 (by decide) ?_
          exact hB29 v2_12 v2_12 H18 _ ls hR hP hD hS (lv_sub hl [0, 2] rfl)
  refine lv_bipush (v := (-4)) hx hb dX11_freeStation_0 bp_m4 ?_
  refine lv_istore_n (lv' := [(1, .int (-4)), (0, .ref (ad b1))]) hx hb dX11_freeStation_2 rfl hl (Nat.le_of_ble_eq_true rfl) rfl (fun ls hl => ?_)
  refine lv_aload_n hx hb dX11_freeStation_3 rfl (lv_at hl 1 rfl) ?_
  refine va_get (D := (dC, dI)) (ci := 9) (v := .ref (ad (b1 + 1))) (C := RX11) (T := TX11) (N := 14) hx hb hts hinX11 hown hK hP 0 rfl rfl 0 (by decide) hF7 (fun _ h9 => h9) rfl dX11_freeStation_4 ?_
  refine lv_iconst (v := 0) hx hb dX11_freeStation_7 ic_0 ?_
  refine va_iald hx hb hK hP 1 0 rfl rfl vi_0_206 dX11_freeStation_8 ?_
  refine lv_iconst (v := 1) hx hb dX11_freeStation_9 ic_1 ?_
  refine lv_isub hx hb dX11_freeStation_10 ?_
  refine lv_istore_n (lv' := [(2, .int ((S1 0 (0 : Int32).toNatClampNeg) - 1)), (1, .int (-4)), (0, .ref (ad b1))]) hx hb dX11_freeStation_11 rfl hl (Nat.le_of_ble_eq_true rfl) rfl (fun ls hl => ?_)
  exact hB12 fuel (-4) ((S1 0 (0 : Int32).toNatClampNeg) - 1) s.heap _ ls hR hP hD hS (lv_sub hl [2, 1, 0] rfl)
set_option maxHeartbeats 8000000 in
set_option maxRecDepth 100000 in
theorem k_X11_minute (l : Launch) (dC : Nat → ClassId) (dI : Nat → Nat → Nat) (cs : Nat → ClassId) (ad : Nat → Nat) (b1 : Nat) (sz : Nat) (S1 : T2) (r : Int32) (u1 : T2) (hR : fX11_minute S1 = some (r, u1)) : Met l yX11_minute wsX11_minute ({ frames := 5, cells := 0, slots := 0, locals := 110 } : Room) (va_Pc [.ref (ad b1)] (pW dC dI (tyL cs) (fl [(w_X11 ad (b1) cs S1)]) sz)) (QI dC dI (tyL cs) (va_A (fl [(w_X11 ad (b1) cs S1)]) sz) (fl [(w_X11 ad (b1) cs u1)]) r) 0 0 (va_A (fl [(w_X11 ad (b1) cs S1)]) sz) := by
  refine mt_of (own := RX11) (cc := cX11_minute) (maxL := 4) (ret := (some .int)) (Qc := fun A => QI dC dI (tyL cs) A (fl [(w_X11 ad (b1) cs u1)]) r) rfl (by decide) rfl (Nat.le_of_ble_eq_true rfl) (fun p e s m below meth c A ls hsz hx hb hr hts hown hlocks hml hA hK hP hD hS hl => ?_)
  subst hsz
  have hl : lv_has ls 4 [(0, .ref (ad b1))] := hl
  have hF7 := hts (.fieldLink RX11 7 "DockedBikesModel" "s" "[I") (List.mem_of_getElem? (i := 1) rfl)
  have hinX11 : ∀ w ∈ wsX110, w ∈ wsX11_minute := by decide +kernel
  have hB14 : ∀ (n14 : Nat), ∀ (S1_14h : T2) (v1_14 : Int32) (v2_14 : Int32) (H : Heap) (locs : List Loc) (ls : Array Slot), fX11_minute_14 n14 S1_14h v1_14 v2_14 = some (r, u1) → va_P (dC, dI) vwCl (fl [(w_X11 ad (b1) cs S1_14h)]) H → va_D A (fl [(w_X11 ad (b1) cs S1_14h)]) → va_S A s.heap H locs → lv_has ls 4 [(0, .ref (ad b1)), (1, .int v1_14), (2, .int v2_14)] → W p l e (headSpec wsX11_minute ({ frames := 5, cells := 0, slots := 0, locals := 110 } : Room)).room s m ([.ref (ad b1)] : List Value).toArray below meth c H locs 0 0 (MQ below (QI dC dI (tyL cs) A (fl [(w_X11 ad (b1) cs u1)]) r) ([.ref (ad b1)] : List Value).toArray s 0 0 A) (F0 m 14 ls []) := by
    intro n14
    induction n14 with
    | zero =>
      intro S1_14h v1_14 v2_14 H locs ls hR hP hD hS hl
      exact nn_e hR
    | succ n14 hI14 =>
      have hB98 : ∀ (S1_98h : T2) (v1_98 : Int32) (v2_98 : Int32) (H : Heap) (locs : List Loc) (ls : Array Slot), fX11_minute_98 (fX11_minute_14 n14) S1_98h v1_98 v2_98 = some (r, u1) → va_P (dC, dI) vwCl (fl [(w_X11 ad (b1) cs S1_98h)]) H → va_D A (fl [(w_X11 ad (b1) cs S1_98h)]) → va_S A s.heap H locs → lv_has ls 4 [(0, .ref (ad b1)), (1, .int v1_98), (2, .int v2_98)] → W p l e (headSpec wsX11_minute ({ frames := 5, cells := 0, slots := 0, locals := 110 } : Room)).room s m ([.ref (ad b1)] : List Value).toArray below meth c H locs 0 0 (MQ below (QI dC dI (tyL cs) A (fl [(w_X11 ad (b1) cs u1)]) r) ([.ref (ad b1)] : List Value).toArray s 0 0 A) (F0 m 98 ls []) := by
        intro S1_98h v1_98 v2_98 H locs ls hR hP hD hS hl
        refine lv_iinc (v := (v2_98 + 1)) (lv' := [(2, .int (v2_98 + 1)), (0, .ref (ad b1)), (1, .int v1_98)]) hx hb dX11_minute_98 hl (k := 2) rfl rfl (Nat.le_of_ble_eq_true rfl) rfl (fun ls hl => ?_)
        refine lv_goto (tgt := 14) hx hb dX11_minute_101 (by decide) ?_
        exact hI14 S1_98h v1_98 (v2_98 + 1) H _ ls hR hP hD hS (lv_sub hl [1, 2, 0] rfl)
      intro S1_14h v1_14 v2_14 H locs ls hR hP hD hS hl
      rw [fX11_minute_14] at hR
      refine lv_iload_n hx hb dX11_minute_14 rfl (lv_at hl 2 rfl) ?_
      refine lv_aload_n hx hb dX11_minute_15 rfl (lv_at hl 0 rfl) ?_
      refine va_get (D := (dC, dI)) (ci := 9) (v := .ref (ad (b1 + 1))) (C := RX11) (T := TX11) (N := 14) hx hb hts hinX11 hown hK hP 0 rfl rfl 0 (by decide) hF7 (fun _ h9 => h9) rfl dX11_minute_16 ?_
      refine lv_iconst (v := 1) hx hb dX11_minute_19 ic_1 ?_
      refine va_iald hx hb hK hP 1 0 rfl rfl vi_1_206 dX11_minute_20 ?_
      refine lv_icmp_ge (tgt := 104) hx hb dX11_minute_21 (by decide) (fun c21 => ?_) (fun c21 => ?_)
      · replace hR := it_t hR c21
        refine lv_iload_n hx hb dX11_minute_104 rfl (lv_at hl 1 rfl) ?_
        replace hR := Option.some.inj hR
        obtain ⟨e9, hR⟩ := Prod.mk.inj hR
        have eu1 := hR
        replace hP : va_P (dC, dI) vwCl (fl [(w_X11 ad (b1) cs u1)]) H := by rw [← eu1]; exact hP
        replace hD : va_D A (fl [(w_X11 ad (b1) cs u1)]) := by rw [← eu1]; exact hD
        exact W.iret hx hb hr (fun t ht hW => ⟨⟨_, (), rfl, e9, by rw [ht]; exact hP, va_K.moved hW.alike hK, hD⟩, hS.F ht⟩) hS.2.2 dX11_minute_105
      · replace hR := it_f hR c21
        refine lv_aload_n hx hb dX11_minute_24 rfl (lv_at hl 0 rfl) ?_
        refine lv_iload_n hx hb dX11_minute_25 rfl (lv_at hl 2 rfl) ?_
        refine lv_iconst (v := 0) hx hb dX11_minute_26 ic_0 ?_
        replace hR := bd_e hR
        obtain ⟨q27, gq27, hR⟩ := hR
        refine cl_Vi (As := [.int v2_14, .int (0 : Int32)]) (rest := []) (L := [(w_X11 ad (b1) cs S1_14h)]) (L' := [(w_X11 ad (b1) cs S1_14h)]) (Wc := [(w_X11 ad (b1) cs S1_14h)]) (Wc' := [(w_X11 ad (b1) cs S1_14h)]) (is := [0]) (js := []) ⟨hx, hb, hml, hown, hts⟩ (k_X11_ofBicycle l dC dI cs ad (b1) H.size S1_14h v2_14 (0 : Int32) q27 gq27) (cwV 2 hts gX11_minute_X11_ofBicycle rfl rfl rfl cd_X11_ofBicycle ⟨Nat.le_of_ble_eq_true rfl, Nat.le_of_ble_eq_true rfl⟩) hK hP hD hS hA ⟨rfl, rfl, rfl, rfl, rfl, rfl⟩ (jn_nd (is := [0]) hD rfl rfl) 0 9 rfl rfl rfl rfl rfl hl.1 (Nat.le_of_ble_eq_true rfl) dX11_minute_27 (fun H27 locs27 hP' hD' hS' => ?_)
        replace hS := hS'
        replace hP : va_P (dC, dI) vwCl (fl [(w_X11 ad (b1) cs S1_14h)]) H27 := hP'
        replace hD : va_D A (fl [(w_X11 ad (b1) cs S1_14h)]) := hD'
        clear hP' hD' hS'
        refine lv_iconst (v := 3) hx hb dX11_minute_30 ic_3 ?_
        refine lv_icmp_ne (tgt := 98) hx hb dX11_minute_31 (by decide) (fun c31 => ?_) (fun c31 => ?_)
        · replace hR := it_f hR c31
          exact hB98 S1_14h v1_14 v2_14 H27 _ ls hR hP hD hS (lv_sub hl [0, 1, 2] rfl)
        · replace hR := it_t hR c31
          refine lv_aload_n hx hb dX11_minute_34 rfl (lv_at hl 0 rfl) ?_
          refine lv_iload_n hx hb dX11_minute_35 rfl (lv_at hl 2 rfl) ?_
          refine lv_iconst (v := 5) hx hb dX11_minute_36 ic_5 ?_
          replace hR := bd_e hR
          obtain ⟨q37, gq37, hR⟩ := hR
          refine cl_Vi (As := [.int v2_14, .int (5 : Int32)]) (rest := []) (L := [(w_X11 ad (b1) cs S1_14h)]) (L' := [(w_X11 ad (b1) cs S1_14h)]) (Wc := [(w_X11 ad (b1) cs S1_14h)]) (Wc' := [(w_X11 ad (b1) cs S1_14h)]) (is := [0]) (js := []) ⟨hx, hb, hml, hown, hts⟩ (k_X11_ofBicycle l dC dI cs ad (b1) H27.size S1_14h v2_14 (5 : Int32) q37 gq37) (cwV 2 hts gX11_minute_X11_ofBicycle rfl rfl rfl cd_X11_ofBicycle ⟨Nat.le_of_ble_eq_true rfl, Nat.le_of_ble_eq_true rfl⟩) hK hP hD hS hA ⟨rfl, rfl, rfl, rfl, rfl, rfl⟩ (jn_nd (is := [0]) hD rfl rfl) 0 9 rfl rfl rfl rfl rfl hl.1 (Nat.le_of_ble_eq_true rfl) dX11_minute_37 (fun H37 locs37 hP' hD' hS' => ?_)
          replace hS := hS'
          replace hP : va_P (dC, dI) vwCl (fl [(w_X11 ad (b1) cs S1_14h)]) H37 := hP'
          replace hD : va_D A (fl [(w_X11 ad (b1) cs S1_14h)]) := hD'
          clear hP' hD' hS'
          refine lv_aload_n hx hb dX11_minute_40 rfl (lv_at hl 0 rfl) ?_
          refine va_get (D := (dC, dI)) (ci := 9) (v := .ref (ad (b1 + 1))) (C := RX11) (T := TX11) (N := 14) hx hb hts hinX11 hown hK hP 0 rfl rfl 0 (by decide) hF7 (fun _ h9 => h9) rfl dX11_minute_41 ?_
          refine lv_iconst (v := 4) hx hb dX11_minute_44 ic_4 ?_
          refine va_iald hx hb hK hP 1 0 rfl rfl vi_4_206 dX11_minute_45 ?_
          refine lv_icmp_gt (tgt := 98) hx hb dX11_minute_46 (by decide) (fun c46 => ?_) (fun c46 => ?_)
          · replace hR := it_t hR c46
            exact hB98 S1_14h v1_14 v2_14 H37 _ ls hR hP hD hS (lv_sub hl [0, 1, 2] rfl)
          · replace hR := it_f hR c46
            refine lv_aload_n hx hb dX11_minute_49 rfl (lv_at hl 0 rfl) ?_
            refine va_get (D := (dC, dI)) (ci := 9) (v := .ref (ad (b1 + 1))) (C := RX11) (T := TX11) (N := 14) hx hb hts hinX11 hown hK hP 0 rfl rfl 0 (by decide) hF7 (fun _ h9 => h9) rfl dX11_minute_50 ?_
            refine lv_bipush (v := 32) hx hb dX11_minute_53 bp_32 ?_
            refine lv_bipush (v := 6) hx hb dX11_minute_55 bp_6 ?_
            refine lv_iload_n hx hb dX11_minute_57 rfl (lv_at hl 2 rfl) ?_
            refine lv_imul hx hb dX11_minute_58 ?_
            refine lv_iadd hx hb dX11_minute_59 ?_
            refine lv_iconst (v := 3) hx hb dX11_minute_60 ic_3 ?_
            refine lv_iadd hx hb dX11_minute_61 ?_
            refine lv_iconst (v := 0) hx hb dX11_minute_62 ic_0 ?_
            replace hR := gi_e hR
            obtain ⟨i63, hR⟩ := hR
            refine va_iast hx hb hK hP hD hS 1 0 rfl rfl i63 dX11_minute_63 (fun H63 locs63 hP' hD' hS' => ?_)
            replace hS := hS'
            have hP' : va_P (dC, dI) vwCl (fl [(w_X11 ad (b1) cs (sU S1_14h 0 (sU (S1_14h 0) (((32 : Int32) + ((6 : Int32) * v2_14)) + 3).toNatClampNeg (0 : Int32))))]) H63 := hP'
            have hD' : va_D A (fl [(w_X11 ad (b1) cs (sU S1_14h 0 (sU (S1_14h 0) (((32 : Int32) + ((6 : Int32) * v2_14)) + 3).toNatClampNeg (0 : Int32))))]) := hD'
            replace hR := bn_e hR
            obtain ⟨S1_63, eS1_63, hR⟩ := hR
            replace hP : va_P (dC, dI) vwCl (fl [(w_X11 ad (b1) cs S1_63)]) H63 := by rw [eS1_63]; exact hP'
            replace hD : va_D A (fl [(w_X11 ad (b1) cs S1_63)]) := by rw [eS1_63]; exact hD'
            clear hP' hD' hS'
            refine lv_aload_n hx hb dX11_minute_64 rfl (lv_at hl 0 rfl) ?_
            refine va_get (D := (dC, dI)) (ci := 9) (v := .ref (ad (b1 + 1))) (C := RX11) (T := TX11) (N := 14) hx hb hts hinX11 hown hK hP 0 rfl rfl 0 (by decide) hF7 (fun _ h9 => h9) rfl dX11_minute_65 ?_
            refine lv_bipush (v := 32) hx hb dX11_minute_68 bp_32 ?_
            refine lv_bipush (v := 6) hx hb dX11_minute_70 bp_6 ?_
            refine lv_iload_n hx hb dX11_minute_72 rfl (lv_at hl 2 rfl) ?_
            refine lv_imul hx hb dX11_minute_73 ?_
            refine lv_iadd hx hb dX11_minute_74 ?_
            refine lv_iconst (v := 2) hx hb dX11_minute_75 ic_2 ?_
            refine lv_iadd hx hb dX11_minute_76 ?_
            refine lv_iconst (v := 0) hx hb dX11_minute_77 ic_0 ?_
            replace hR := gi_e hR
            obtain ⟨i78, hR⟩ := hR
            refine va_iast hx hb hK hP hD hS 1 0 rfl rfl i78 dX11_minute_78 (fun H78 locs78 hP' hD' hS' => ?_)
            replace hS := hS'
            have hP' : va_P (dC, dI) vwCl (fl [(w_X11 ad (b1) cs (sU S1_63 0 (sU (S1_63 0) (((32 : Int32) + ((6 : Int32) * v2_14)) + 2).toNatClampNeg (0 : Int32))))]) H78 := hP'
            have hD' : va_D A (fl [(w_X11 ad (b1) cs (sU S1_63 0 (sU (S1_63 0) (((32 : Int32) + ((6 : Int32) * v2_14)) + 2).toNatClampNeg (0 : Int32))))]) := hD'
            replace hR := bn_e hR
            obtain ⟨S1_78, eS1_78, hR⟩ := hR
            replace hP : va_P (dC, dI) vwCl (fl [(w_X11 ad (b1) cs S1_78)]) H78 := by rw [eS1_78]; exact hP'
            replace hD : va_D A (fl [(w_X11 ad (b1) cs S1_78)]) := by rw [eS1_78]; exact hD'
            clear hP' hD' hS'
            refine lv_aload_n hx hb dX11_minute_79 rfl (lv_at hl 0 rfl) ?_
            replace hR := bd_e hR
            obtain ⟨q80, gq80, hR⟩ := hR
            refine cl_Vi (As := []) (rest := []) (L := [(w_X11 ad (b1) cs S1_78)]) (L' := [(w_X11 ad (b1) cs S1_78)]) (Wc := [(w_X11 ad (b1) cs S1_78)]) (Wc' := [(w_X11 ad (b1) cs S1_78)]) (is := [0]) (js := []) ⟨hx, hb, hml, hown, hts⟩ (k_X11_freeStation l dC dI cs ad (b1) H78.size S1_78 q80 gq80) (cwV 0 hts gX11_minute_X11_freeStation rfl rfl rfl cd_X11_freeStation ⟨Nat.le_of_ble_eq_true rfl, Nat.le_of_ble_eq_true rfl⟩) hK hP hD hS hA ⟨rfl, rfl, rfl, rfl, rfl, rfl⟩ (jn_nd (is := [0]) hD rfl rfl) 0 9 rfl rfl rfl rfl rfl hl.1 (Nat.le_of_ble_eq_true rfl) dX11_minute_80 (fun H80 locs80 hP' hD' hS' => ?_)
            replace hS := hS'
            replace hP : va_P (dC, dI) vwCl (fl [(w_X11 ad (b1) cs S1_78)]) H80 := hP'
            replace hD : va_D A (fl [(w_X11 ad (b1) cs S1_78)]) := hD'
            clear hP' hD' hS'
            refine lv_istore_n (lv' := [(3, .int q80), (0, .ref (ad b1)), (1, .int v1_14), (2, .int v2_14)]) hx hb dX11_minute_83 rfl hl (Nat.le_of_ble_eq_true rfl) rfl (fun ls hl => ?_)
            refine lv_iload_n hx hb dX11_minute_84 rfl (lv_at hl 0 rfl) ?_
            refine lv_if_lt (tgt := 98) hx hb dX11_minute_85 (by decide) (fun c85 => ?_) (fun c85 => ?_)
            · replace hR := it_t hR c85
              exact hB98 S1_78 v1_14 v2_14 H80 _ ls hR hP hD hS (lv_sub hl [1, 2, 3] rfl)
            · replace hR := it_f hR c85
              refine lv_aload_n hx hb dX11_minute_88 rfl (lv_at hl 1 rfl) ?_
              refine lv_iload_n hx hb dX11_minute_89 rfl (lv_at hl 3 rfl) ?_
              refine lv_iconst (v := 0) hx hb dX11_minute_90 ic_0 ?_
              refine lv_iload_n hx hb dX11_minute_91 rfl (lv_at hl 0 rfl) ?_
              replace hR := bd_e hR
              obtain ⟨q92, gq92, hR⟩ := hR
              refine cl_Vv (As := [.int v2_14, .int (0 : Int32), .int q80]) (rest := []) (L := [(w_X11 ad (b1) cs S1_78)]) (L' := [(w_X11 ad (b1) cs q92)]) (Wc := [(w_X11 ad (b1) cs S1_78)]) (Wc' := [(w_X11 ad (b1) cs q92)]) (is := [0]) (js := []) ⟨hx, hb, hml, hown, hts⟩ (k_X11_puts l dC dI cs ad (b1) H80.size S1_78 v2_14 (0 : Int32) q80 q92 gq92) (cwV 3 hts gX11_minute_X11_puts rfl rfl rfl cd_X11_puts ⟨Nat.le_of_ble_eq_true rfl, Nat.le_of_ble_eq_true rfl⟩) hK hP hD hS hA ⟨rfl, rfl, rfl, rfl, rfl, rfl⟩ (jn_nd (is := [0]) hD rfl rfl) 0 9 rfl rfl rfl rfl rfl hl.1 (Nat.le_of_ble_eq_true rfl) dX11_minute_92 (fun H92 locs92 hP' hD' hS' => ?_)
              replace hS := hS'
              replace hP : va_P (dC, dI) vwCl (fl [(w_X11 ad (b1) cs q92)]) H92 := hP'
              replace hD : va_D A (fl [(w_X11 ad (b1) cs q92)]) := hD'
              clear hP' hD' hS'
              refine lv_iinc (v := (v1_14 + 1)) (lv' := [(1, .int (v1_14 + 1)), (3, .int q80), (0, .ref (ad b1)), (2, .int v2_14)]) hx hb dX11_minute_95 hl (k := 2) rfl rfl (Nat.le_of_ble_eq_true rfl) rfl (fun ls hl => ?_)
              exact hB98 q92 (v1_14 + 1) v2_14 H92 _ ls hR hP hD hS (lv_sub hl [2, 0, 3] rfl)
  refine lv_aload_n hx hb dX11_minute_0 rfl (lv_at hl 0 rfl) ?_
  refine va_get (D := (dC, dI)) (ci := 9) (v := .ref (ad (b1 + 1))) (C := RX11) (T := TX11) (N := 14) hx hb hts hinX11 hown hK hP 0 rfl rfl 0 (by decide) hF7 (fun _ h9 => h9) rfl dX11_minute_1 ?_
  refine lv_iconst (v := 4) hx hb dX11_minute_4 ic_4 ?_
  refine lv_dup2_11 hx hb dX11_minute_5 rfl rfl ?_
  refine va_iald hx hb hK hP 1 0 rfl rfl vi_4_206 dX11_minute_6 ?_
  refine lv_iconst (v := 1) hx hb dX11_minute_7 ic_1 ?_
  refine lv_iadd hx hb dX11_minute_8 ?_
  refine va_iast hx hb hK hP hD hS 1 0 rfl rfl vi_4_206 dX11_minute_9 (fun H9 locs9 hP' hD' hS' => ?_)
  replace hS := hS'
  have hP' : va_P (dC, dI) vwCl (fl [(w_X11 ad (b1) cs (sU S1 0 (sU (S1 0) (4 : Int32).toNatClampNeg ((S1 0 (4 : Int32).toNatClampNeg) + 1))))]) H9 := hP'
  have hD' : va_D A (fl [(w_X11 ad (b1) cs (sU S1 0 (sU (S1 0) (4 : Int32).toNatClampNeg ((S1 0 (4 : Int32).toNatClampNeg) + 1))))]) := hD'
  replace hR := bn_e hR
  obtain ⟨S1_9, eS1_9, hR⟩ := hR
  replace hP : va_P (dC, dI) vwCl (fl [(w_X11 ad (b1) cs S1_9)]) H9 := by rw [eS1_9]; exact hP'
  replace hD : va_D A (fl [(w_X11 ad (b1) cs S1_9)]) := by rw [eS1_9]; exact hD'
  clear hP' hD' hS'
  refine lv_iconst (v := 0) hx hb dX11_minute_10 ic_0 ?_
  refine lv_istore_n (lv' := [(1, .int (0 : Int32)), (0, .ref (ad b1))]) hx hb dX11_minute_11 rfl hl (Nat.le_of_ble_eq_true rfl) rfl (fun ls hl => ?_)
  refine lv_iconst (v := 0) hx hb dX11_minute_12 ic_0 ?_
  refine lv_istore_n (lv' := [(2, .int (0 : Int32)), (1, .int (0 : Int32)), (0, .ref (ad b1))]) hx hb dX11_minute_13 rfl hl (Nat.le_of_ble_eq_true rfl) rfl (fun ls hl => ?_)
  exact hB14 fuel S1_9 (0 : Int32) (0 : Int32) H9 _ ls hR hP hD hS (lv_sub hl [2, 1, 0] rfl)
set_option maxHeartbeats 8000000 in
set_option maxRecDepth 100000 in
theorem k_X11_pause (l : Launch) (dC : Nat → ClassId) (dI : Nat → Nat → Nat) (cs : Nat → ClassId) (ad : Nat → Nat) (b1 : Nat) (sz : Nat) (S1 : T2) (p1 : Int32) (r : Int32) (u1 : T2) (hR : fX11_pause S1 p1 = some (r, u1)) : Met l yX11_pause wsX11_pause ({ frames := 6, cells := 0, slots := 0, locals := 133 } : Room) (va_Pc [.ref (ad b1), .int p1] (pW dC dI (tyL cs) (fl [(w_X11 ad (b1) cs S1)]) sz)) (QI dC dI (tyL cs) (va_A (fl [(w_X11 ad (b1) cs S1)]) sz) (fl [(w_X11 ad (b1) cs u1)]) r) 0 0 (va_A (fl [(w_X11 ad (b1) cs S1)]) sz) := by
  refine mt_of (own := RX11) (cc := cX11_pause) (maxL := 4) (ret := (some .int)) (Qc := fun A => QI dC dI (tyL cs) A (fl [(w_X11 ad (b1) cs u1)]) r) rfl (by decide) rfl (Nat.le_of_ble_eq_true rfl) (fun p e s m below meth c A ls hsz hx hb hr hts hown hlocks hml hA hK hP hD hS hl => ?_)
  subst hsz
  have hl : lv_has ls 4 [(0, .ref (ad b1)), (1, .int p1)] := hl
  have hF7 := hts (.fieldLink RX11 7 "DockedBikesModel" "s" "[I") (List.mem_of_getElem? (i := 1) rfl)
  have hinX11 : ∀ w ∈ wsX110, w ∈ wsX11_pause := by decide +kernel
  have hB38 : ∀ (n38 : Nat), ∀ (S1_38h : T2) (v2_38 : Int32) (v3_38 : Int32) (H : Heap) (locs : List Loc) (ls : Array Slot), fX11_pause_38 p1 n38 S1_38h v2_38 v3_38 = some (r, u1) → va_P (dC, dI) vwCl (fl [(w_X11 ad (b1) cs S1_38h)]) H → va_D A (fl [(w_X11 ad (b1) cs S1_38h)]) → va_S A s.heap H locs → lv_has ls 4 [(0, .ref (ad b1)), (1, .int p1), (2, .int v2_38), (3, .int v3_38)] → W p l e (headSpec wsX11_pause ({ frames := 6, cells := 0, slots := 0, locals := 133 } : Room)).room s m ([.ref (ad b1), .int p1] : List Value).toArray below meth c H locs 0 0 (MQ below (QI dC dI (tyL cs) A (fl [(w_X11 ad (b1) cs u1)]) r) ([.ref (ad b1), .int p1] : List Value).toArray s 0 0 A) (F0 m 38 ls []) := by
    intro n38
    induction n38 with
    | zero =>
      intro S1_38h v2_38 v3_38 H locs ls hR hP hD hS hl
      exact nn_e hR
    | succ n38 hI38 =>
      intro S1_38h v2_38 v3_38 H locs ls hR hP hD hS hl
      rw [fX11_pause_38] at hR
      refine lv_iload_n hx hb dX11_pause_38 rfl (lv_at hl 3 rfl) ?_
      refine lv_iload_n hx hb dX11_pause_39 rfl (lv_at hl 1 rfl) ?_
      refine lv_icmp_ge (tgt := 56) hx hb dX11_pause_40 (by decide) (fun c40 => ?_) (fun c40 => ?_)
      · replace hR := it_t hR c40
        refine lv_iload_n hx hb dX11_pause_56 rfl (lv_at hl 2 rfl) ?_
        replace hR := Option.some.inj hR
        obtain ⟨e9, hR⟩ := Prod.mk.inj hR
        have eu1 := hR
        replace hP : va_P (dC, dI) vwCl (fl [(w_X11 ad (b1) cs u1)]) H := by rw [← eu1]; exact hP
        replace hD : va_D A (fl [(w_X11 ad (b1) cs u1)]) := by rw [← eu1]; exact hD
        exact W.iret hx hb hr (fun t ht hW => ⟨⟨_, (), rfl, e9, by rw [ht]; exact hP, va_K.moved hW.alike hK, hD⟩, hS.F ht⟩) hS.2.2 dX11_pause_57
      · replace hR := it_f hR c40
        refine lv_iload_n hx hb dX11_pause_43 rfl (lv_at hl 2 rfl) ?_
        refine lv_aload_n hx hb dX11_pause_44 rfl (lv_at hl 0 rfl) ?_
        replace hR := bd_e hR
        obtain ⟨q45, gq45, hR⟩ := hR
        refine cl_Vi (As := []) (rest := [.int v2_38]) (L := [(w_X11 ad (b1) cs S1_38h)]) (L' := [(w_X11 ad (b1) cs q45.2)]) (Wc := [(w_X11 ad (b1) cs S1_38h)]) (Wc' := [(w_X11 ad (b1) cs q45.2)]) (is := [0]) (js := []) ⟨hx, hb, hml, hown, hts⟩ (k_X11_minute l dC dI cs ad (b1) H.size S1_38h q45.1 q45.2 gq45) (cwV 0 hts gX11_pause_X11_minute rfl rfl rfl cd_X11_minute ⟨Nat.le_of_ble_eq_true rfl, Nat.le_of_ble_eq_true rfl⟩) hK hP hD hS hA ⟨rfl, rfl, rfl, rfl, rfl, rfl⟩ (jn_nd (is := [0]) hD rfl rfl) 0 9 rfl rfl rfl rfl rfl hl.1 (Nat.le_of_ble_eq_true rfl) dX11_pause_45 (fun H45 locs45 hP' hD' hS' => ?_)
        replace hS := hS'
        replace hP : va_P (dC, dI) vwCl (fl [(w_X11 ad (b1) cs q45.2)]) H45 := hP'
        replace hD : va_D A (fl [(w_X11 ad (b1) cs q45.2)]) := hD'
        clear hP' hD' hS'
        refine lv_iadd hx hb dX11_pause_48 ?_
        refine lv_istore_n (lv' := [(2, .int (v2_38 + q45.1)), (0, .ref (ad b1)), (1, .int p1), (3, .int v3_38)]) hx hb dX11_pause_49 rfl hl (Nat.le_of_ble_eq_true rfl) rfl (fun ls hl => ?_)
        refine lv_iinc (v := (v3_38 + 1)) (lv' := [(3, .int (v3_38 + 1)), (2, .int (v2_38 + q45.1)), (0, .ref (ad b1)), (1, .int p1)]) hx hb dX11_pause_50 hl (k := 3) rfl rfl (Nat.le_of_ble_eq_true rfl) rfl (fun ls hl => ?_)
        refine lv_goto (tgt := 38) hx hb dX11_pause_53 (by decide) ?_
        exact hI38 q45.2 (v2_38 + q45.1) (v3_38 + 1) H45 _ ls hR hP hD hS (lv_sub hl [2, 3, 1, 0] rfl)
  refine lv_iload_n hx hb dX11_pause_0 rfl (lv_at hl 1 rfl) ?_
  refine lv_iconst (v := 1) hx hb dX11_pause_1 ic_1 ?_
  refine lv_sipush (v := 200) hx hb dX11_pause_2 sp_200 ?_
  replace hR := bd_e hR
  obtain ⟨q5, gq5, hR⟩ := hR
  refine cl_Si (As := [.int p1, .int (1 : Int32), .int (200 : Int32)]) (rest := []) (L := [(w_X11 ad (b1) cs S1)]) (L' := [(w_X11 ad (b1) cs S1)]) (Wc := []) (Wc' := []) (is := []) (js := [0]) ⟨hx, hb, hml, hown, hts⟩ (k_X11_in l dC dI cs ad s.heap.size p1 (1 : Int32) (200 : Int32) q5 gq5) (cwS 3 hts gX11_pause_X11_in rfl rfl rfl cd_X11_in ⟨Nat.le_of_ble_eq_true rfl, Nat.le_of_ble_eq_true rfl⟩) hK hP hD hS hA ⟨rfl, rfl, rfl, rfl, rfl, rfl⟩ (jn_nd (is := []) hD rfl rfl) rfl rfl hl.1 (Nat.le_of_ble_eq_true rfl) dX11_pause_5 (fun H5 locs5 hP' hD' hS' => ?_)
  replace hS := hS'
  replace hP : va_P (dC, dI) vwCl (fl [(w_X11 ad (b1) cs S1)]) H5 := hP'
  replace hD : va_D A (fl [(w_X11 ad (b1) cs S1)]) := hD'
  clear hP' hD' hS'
  refine lv_if_ne (tgt := 13) hx hb dX11_pause_8 (by decide) (fun c8 => ?_) (fun c8 => ?_)
  · replace hR := it_f hR c8
    refine lv_aload_n hx hb dX11_pause_13 rfl (lv_at hl 0 rfl) ?_
    refine va_get (D := (dC, dI)) (ci := 9) (v := .ref (ad (b1 + 1))) (C := RX11) (T := TX11) (N := 14) hx hb hts hinX11 hown hK hP 0 rfl rfl 0 (by decide) hF7 (fun _ h9 => h9) rfl dX11_pause_14 ?_
    refine lv_iconst (v := 4) hx hb dX11_pause_17 ic_4 ?_
    refine va_iald hx hb hK hP 1 0 rfl rfl vi_4_206 dX11_pause_18 ?_
    refine lv_iload_n hx hb dX11_pause_19 rfl (lv_at hl 1 rfl) ?_
    refine lv_iadd hx hb dX11_pause_20 ?_
    refine lv_sipush (v := 9000) hx hb dX11_pause_21 sp_9000 ?_
    refine lv_icmp_le (tgt := 30) hx hb dX11_pause_24 (by decide) (fun c24 => ?_) (fun c24 => ?_)
    · replace hR := it_t hR c24
      refine lv_aload_n hx hb dX11_pause_30 rfl (lv_at hl 0 rfl) ?_
      replace hR := bd_e hR
      obtain ⟨q31, gq31, hR⟩ := hR
      refine cl_Vv (As := []) (rest := []) (L := [(w_X11 ad (b1) cs S1)]) (L' := [(w_X11 ad (b1) cs q31)]) (Wc := [(w_X11 ad (b1) cs S1)]) (Wc' := [(w_X11 ad (b1) cs q31)]) (is := [0]) (js := []) ⟨hx, hb, hml, hown, hts⟩ (k_X11_changes l dC dI cs ad (b1) H5.size S1 q31 gq31) (cwV 0 hts gX11_pause_X11_changes rfl rfl rfl cd_X11_changes ⟨Nat.le_of_ble_eq_true rfl, Nat.le_of_ble_eq_true rfl⟩) hK hP hD hS hA ⟨rfl, rfl, rfl, rfl, rfl, rfl⟩ (jn_nd (is := [0]) hD rfl rfl) 0 9 rfl rfl rfl rfl rfl hl.1 (Nat.le_of_ble_eq_true rfl) dX11_pause_31 (fun H31 locs31 hP' hD' hS' => ?_)
      replace hS := hS'
      replace hP : va_P (dC, dI) vwCl (fl [(w_X11 ad (b1) cs q31)]) H31 := hP'
      replace hD : va_D A (fl [(w_X11 ad (b1) cs q31)]) := hD'
      clear hP' hD' hS'
      refine lv_iconst (v := 0) hx hb dX11_pause_34 ic_0 ?_
      refine lv_istore_n (lv' := [(2, .int (0 : Int32)), (0, .ref (ad b1)), (1, .int p1)]) hx hb dX11_pause_35 rfl hl (Nat.le_of_ble_eq_true rfl) rfl (fun ls hl => ?_)
      refine lv_iconst (v := 0) hx hb dX11_pause_36 ic_0 ?_
      refine lv_istore_n (lv' := [(3, .int (0 : Int32)), (2, .int (0 : Int32)), (0, .ref (ad b1)), (1, .int p1)]) hx hb dX11_pause_37 rfl hl (Nat.le_of_ble_eq_true rfl) rfl (fun ls hl => ?_)
      exact hB38 fuel q31 (0 : Int32) (0 : Int32) H31 _ ls hR hP hD hS (lv_sub hl [2, 3, 1, 0] rfl)
    · replace hR := it_f hR c24
      refine lv_bipush (v := (-3)) hx hb dX11_pause_27 bp_m3 ?_
      replace hR := Option.some.inj hR
      obtain ⟨e9, hR⟩ := Prod.mk.inj hR
      have eu1 := hR
      replace hP : va_P (dC, dI) vwCl (fl [(w_X11 ad (b1) cs u1)]) H5 := by rw [← eu1]; exact hP
      replace hD : va_D A (fl [(w_X11 ad (b1) cs u1)]) := by rw [← eu1]; exact hD
      exact W.iret hx hb hr (fun t ht hW => ⟨⟨_, (), rfl, e9, by rw [ht]; exact hP, va_K.moved hW.alike hK, hD⟩, hS.F ht⟩) hS.2.2 dX11_pause_29
  · replace hR := it_t hR c8
    refine lv_iconst (v := (-1)) hx hb dX11_pause_11 ic_m1 ?_
    replace hR := Option.some.inj hR
    obtain ⟨e9, hR⟩ := Prod.mk.inj hR
    have eu1 := hR
    replace hP : va_P (dC, dI) vwCl (fl [(w_X11 ad (b1) cs u1)]) H5 := by rw [← eu1]; exact hP
    replace hD : va_D A (fl [(w_X11 ad (b1) cs u1)]) := by rw [← eu1]; exact hD
    exact W.iret hx hb hr (fun t ht hW => ⟨⟨_, (), rfl, e9, by rw [ht]; exact hP, va_K.moved hW.alike hK, hD⟩, hS.F ht⟩) hS.2.2 dX11_pause_12
set_option maxHeartbeats 8000000 in
set_option maxRecDepth 100000 in
theorem k_X11_set (l : Launch) (dC : Nat → ClassId) (dI : Nat → Nat → Nat) (cs : Nat → ClassId) (ad : Nat → Nat) (b1 : Nat) (sz : Nat) (S1 : T2) (p1 : Int32) (p2 : Int32) (r : Int32) (u1 : T2) (hR : fX11_set S1 p1 p2 = some (r, u1)) : Met l yX11_set wsX11_set ({ frames := 1, cells := 0, slots := 0, locals := 22 } : Room) (va_Pc [.ref (ad b1), .int p1, .int p2] (pW dC dI (tyL cs) (fl [(w_X11 ad (b1) cs S1)]) sz)) (QI dC dI (tyL cs) (va_A (fl [(w_X11 ad (b1) cs S1)]) sz) (fl [(w_X11 ad (b1) cs u1)]) r) 0 0 (va_A (fl [(w_X11 ad (b1) cs S1)]) sz) := by
  refine mt_of (own := RX11) (cc := cX11_set) (maxL := 4) (ret := (some .int)) (Qc := fun A => QI dC dI (tyL cs) A (fl [(w_X11 ad (b1) cs u1)]) r) rfl (by decide) rfl (Nat.le_of_ble_eq_true rfl) (fun p e s m below meth c A ls hsz hx hb hr hts hown hlocks hml hA hK hP hD hS hl => ?_)
  subst hsz
  have hl : lv_has ls 4 [(0, .ref (ad b1)), (1, .int p1), (2, .int p2)] := hl
  have hF7 := hts (.fieldLink RX11 7 "DockedBikesModel" "s" "[I") (List.mem_of_getElem? (i := 1) rfl)
  have hinX11 : ∀ w ∈ wsX110, w ∈ wsX11_set := by decide +kernel
  have hB32 : ∀ (S1_32h : T2) (t0_32 : Int32) (t1_32 : Int32) (t2_32 : Int32) (H : Heap) (locs : List Loc) (ls : Array Slot), fX11_set_32 p1 p2 S1_32h t0_32 t1_32 t2_32 = some (r, u1) → va_P (dC, dI) vwCl (fl [(w_X11 ad (b1) cs S1_32h)]) H → va_D A (fl [(w_X11 ad (b1) cs S1_32h)]) → va_S A s.heap H locs → lv_has ls 4 [(0, .ref (ad b1)), (1, .int p1), (2, .int p2)] → W p l e (headSpec wsX11_set ({ frames := 1, cells := 0, slots := 0, locals := 22 } : Room)).room s m ([.ref (ad b1), .int p1, .int p2] : List Value).toArray below meth c H locs 0 0 (MQ below (QI dC dI (tyL cs) A (fl [(w_X11 ad (b1) cs u1)]) r) ([.ref (ad b1), .int p1, .int p2] : List Value).toArray s 0 0 A) (F0 m 32 ls [.int t2_32, .int t1_32, .int t0_32]) := by
    intro S1_32h t0_32 t1_32 t2_32 H locs ls hR hP hD hS hl
    replace hR := bd_e hR
    obtain ⟨q32, gq32, hR⟩ := hR
    refine cl_Si (As := [.int t0_32, .int t1_32, .int t2_32]) (rest := []) (L := [(w_X11 ad (b1) cs S1_32h)]) (L' := [(w_X11 ad (b1) cs S1_32h)]) (Wc := []) (Wc' := []) (is := []) (js := [0]) ⟨hx, hb, hml, hown, hts⟩ (k_X11_in l dC dI cs ad H.size t0_32 t1_32 t2_32 q32 gq32) (cwS 3 hts gX11_set_X11_in rfl rfl rfl cd_X11_in ⟨Nat.le_of_ble_eq_true rfl, Nat.le_of_ble_eq_true rfl⟩) hK hP hD hS hA ⟨rfl, rfl, rfl, rfl, rfl, rfl⟩ (jn_nd (is := []) hD rfl rfl) rfl rfl hl.1 (Nat.le_of_ble_eq_true rfl) dX11_set_32 (fun H32 locs32 hP' hD' hS' => ?_)
    replace hS := hS'
    replace hP : va_P (dC, dI) vwCl (fl [(w_X11 ad (b1) cs S1_32h)]) H32 := hP'
    replace hD : va_D A (fl [(w_X11 ad (b1) cs S1_32h)]) := hD'
    clear hP' hD' hS'
    refine lv_if_ne (tgt := 40) hx hb dX11_set_35 (by decide) (fun c35 => ?_) (fun c35 => ?_)
    · replace hR := it_f hR c35
      refine lv_aload_n hx hb dX11_set_40 rfl (lv_at hl 0 rfl) ?_
      replace hR := bd_e hR
      obtain ⟨q41, gq41, hR⟩ := hR
      refine cl_Vv (As := []) (rest := []) (L := [(w_X11 ad (b1) cs S1_32h)]) (L' := [(w_X11 ad (b1) cs q41)]) (Wc := [(w_X11 ad (b1) cs S1_32h)]) (Wc' := [(w_X11 ad (b1) cs q41)]) (is := [0]) (js := []) ⟨hx, hb, hml, hown, hts⟩ (k_X11_changes l dC dI cs ad (b1) H32.size S1_32h q41 gq41) (cwV 0 hts gX11_set_X11_changes rfl rfl rfl cd_X11_changes ⟨Nat.le_of_ble_eq_true rfl, Nat.le_of_ble_eq_true rfl⟩) hK hP hD hS hA ⟨rfl, rfl, rfl, rfl, rfl, rfl⟩ (jn_nd (is := [0]) hD rfl rfl) 0 9 rfl rfl rfl rfl rfl hl.1 (Nat.le_of_ble_eq_true rfl) dX11_set_41 (fun H41 locs41 hP' hD' hS' => ?_)
      replace hS := hS'
      replace hP : va_P (dC, dI) vwCl (fl [(w_X11 ad (b1) cs q41)]) H41 := hP'
      replace hD : va_D A (fl [(w_X11 ad (b1) cs q41)]) := hD'
      clear hP' hD' hS'
      refine lv_aload_n hx hb dX11_set_44 rfl (lv_at hl 0 rfl) ?_
      refine va_get (D := (dC, dI)) (ci := 9) (v := .ref (ad (b1 + 1))) (C := RX11) (T := TX11) (N := 14) hx hb hts hinX11 hown hK hP 0 rfl rfl 0 (by decide) hF7 (fun _ h9 => h9) rfl dX11_set_45 ?_
      refine lv_iconst (v := 5) hx hb dX11_set_48 ic_5 ?_
      refine lv_iload_n hx hb dX11_set_49 rfl (lv_at hl 1 rfl) ?_
      refine lv_iadd hx hb dX11_set_50 ?_
      replace hR := gi_e hR
      obtain ⟨i51, hR⟩ := hR
      refine va_iald hx hb hK hP 1 0 rfl rfl i51 dX11_set_51 ?_
      refine lv_istore_n (lv' := [(3, .int (q41 0 ((5 : Int32) + p1).toNatClampNeg)), (0, .ref (ad b1)), (1, .int p1), (2, .int p2)]) hx hb dX11_set_52 rfl hl (Nat.le_of_ble_eq_true rfl) rfl (fun ls hl => ?_)
      refine lv_aload_n hx hb dX11_set_53 rfl (lv_at hl 1 rfl) ?_
      refine va_get (D := (dC, dI)) (ci := 9) (v := .ref (ad (b1 + 1))) (C := RX11) (T := TX11) (N := 14) hx hb hts hinX11 hown hK hP 0 rfl rfl 0 (by decide) hF7 (fun _ h9 => h9) rfl dX11_set_54 ?_
      refine lv_iconst (v := 5) hx hb dX11_set_57 ic_5 ?_
      refine lv_iload_n hx hb dX11_set_58 rfl (lv_at hl 2 rfl) ?_
      refine lv_iadd hx hb dX11_set_59 ?_
      refine lv_iload_n hx hb dX11_set_60 rfl (lv_at hl 3 rfl) ?_
      replace hR := gi_e hR
      obtain ⟨i61, hR⟩ := hR
      refine va_iast hx hb hK hP hD hS 1 0 rfl rfl i61 dX11_set_61 (fun H61 locs61 hP' hD' hS' => ?_)
      replace hS := hS'
      have hP' : va_P (dC, dI) vwCl (fl [(w_X11 ad (b1) cs (sU q41 0 (sU (q41 0) ((5 : Int32) + p1).toNatClampNeg p2)))]) H61 := hP'
      have hD' : va_D A (fl [(w_X11 ad (b1) cs (sU q41 0 (sU (q41 0) ((5 : Int32) + p1).toNatClampNeg p2)))]) := hD'
      replace hR := bn_e hR
      obtain ⟨S1_61, eS1_61, hR⟩ := hR
      replace hP : va_P (dC, dI) vwCl (fl [(w_X11 ad (b1) cs S1_61)]) H61 := by rw [eS1_61]; exact hP'
      replace hD : va_D A (fl [(w_X11 ad (b1) cs S1_61)]) := by rw [eS1_61]; exact hD'
      clear hP' hD' hS'
      refine lv_iload_n hx hb dX11_set_62 rfl (lv_at hl 0 rfl) ?_
      replace hR := Option.some.inj hR
      obtain ⟨e9, hR⟩ := Prod.mk.inj hR
      have eu1 := hR
      replace hP : va_P (dC, dI) vwCl (fl [(w_X11 ad (b1) cs u1)]) H61 := by rw [← eu1]; exact hP
      replace hD : va_D A (fl [(w_X11 ad (b1) cs u1)]) := by rw [← eu1]; exact hD
      exact W.iret hx hb hr (fun t ht hW => ⟨⟨_, (), rfl, e9, by rw [ht]; exact hP, va_K.moved hW.alike hK, hD⟩, hS.F ht⟩) hS.2.2 dX11_set_63
    · replace hR := it_t hR c35
      refine lv_iconst (v := (-1)) hx hb dX11_set_38 ic_m1 ?_
      replace hR := Option.some.inj hR
      obtain ⟨e9, hR⟩ := Prod.mk.inj hR
      have eu1 := hR
      replace hP : va_P (dC, dI) vwCl (fl [(w_X11 ad (b1) cs u1)]) H32 := by rw [← eu1]; exact hP
      replace hD : va_D A (fl [(w_X11 ad (b1) cs u1)]) := by rw [← eu1]; exact hD
      exact W.iret hx hb hr (fun t ht hW => ⟨⟨_, (), rfl, e9, by rw [ht]; exact hP, va_K.moved hW.alike hK, hD⟩, hS.F ht⟩) hS.2.2 dX11_set_39
  have hB20 : ∀ (S1_20h : T2) (t0_20 : Int32) (t1_20 : Int32) (H : Heap) (locs : List Loc) (ls : Array Slot), fX11_set_20 p1 p2 S1_20h t0_20 t1_20 = some (r, u1) → va_P (dC, dI) vwCl (fl [(w_X11 ad (b1) cs S1_20h)]) H → va_D A (fl [(w_X11 ad (b1) cs S1_20h)]) → va_S A s.heap H locs → lv_has ls 4 [(0, .ref (ad b1)), (1, .int p1), (2, .int p2)] → W p l e (headSpec wsX11_set ({ frames := 1, cells := 0, slots := 0, locals := 22 } : Room)).room s m ([.ref (ad b1), .int p1, .int p2] : List Value).toArray below meth c H locs 0 0 (MQ below (QI dC dI (tyL cs) A (fl [(w_X11 ad (b1) cs u1)]) r) ([.ref (ad b1), .int p1, .int p2] : List Value).toArray s 0 0 A) (F0 m 20 ls [.int t1_20, .int t0_20]) := by
    intro S1_20h t0_20 t1_20 H locs ls hR hP hD hS hl
    refine lv_iload_n hx hb dX11_set_20 rfl (lv_at hl 1 rfl) ?_
    refine lv_if_ne (tgt := 29) hx hb dX11_set_21 (by decide) (fun c21 => ?_) (fun c21 => ?_)
    · replace hR := it_f hR c21
      refine lv_sipush (v := 999) hx hb dX11_set_29 sp_999 ?_
      exact hB32 S1_20h t0_20 t1_20 (999 : Int32) H _ ls hR hP hD hS (lv_sub hl [0, 1, 2] rfl)
    · replace hR := it_t hR c21
      refine lv_bipush (v := 99) hx hb dX11_set_24 bp_99 ?_
      refine lv_goto (tgt := 32) hx hb dX11_set_26 (by decide) ?_
      exact hB32 S1_20h t0_20 t1_20 (99 : Int32) H _ ls hR hP hD hS (lv_sub hl [0, 1, 2] rfl)
  refine lv_iload_n hx hb dX11_set_0 rfl (lv_at hl 1 rfl) ?_
  refine lv_iconst (v := 0) hx hb dX11_set_1 ic_0 ?_
  refine lv_iconst (v := 2) hx hb dX11_set_2 ic_2 ?_
  replace hR := bd_e hR
  obtain ⟨q3, gq3, hR⟩ := hR
  refine cl_Si (As := [.int p1, .int (0 : Int32), .int (2 : Int32)]) (rest := []) (L := [(w_X11 ad (b1) cs S1)]) (L' := [(w_X11 ad (b1) cs S1)]) (Wc := []) (Wc' := []) (is := []) (js := [0]) ⟨hx, hb, hml, hown, hts⟩ (k_X11_in l dC dI cs ad s.heap.size p1 (0 : Int32) (2 : Int32) q3 gq3) (cwS 3 hts gX11_set_X11_in rfl rfl rfl cd_X11_in ⟨Nat.le_of_ble_eq_true rfl, Nat.le_of_ble_eq_true rfl⟩) hK hP hD hS hA ⟨rfl, rfl, rfl, rfl, rfl, rfl⟩ (jn_nd (is := []) hD rfl rfl) rfl rfl hl.1 (Nat.le_of_ble_eq_true rfl) dX11_set_3 (fun H3 locs3 hP' hD' hS' => ?_)
  replace hS := hS'
  replace hP : va_P (dC, dI) vwCl (fl [(w_X11 ad (b1) cs S1)]) H3 := hP'
  replace hD : va_D A (fl [(w_X11 ad (b1) cs S1)]) := hD'
  clear hP' hD' hS'
  refine lv_if_eq (tgt := 38) hx hb dX11_set_6 (by decide) (fun c6 => ?_) (fun c6 => ?_)
  · replace hR := it_t hR c6
    refine lv_iconst (v := (-1)) hx hb dX11_set_38 ic_m1 ?_
    replace hR := Option.some.inj hR
    obtain ⟨e9, hR⟩ := Prod.mk.inj hR
    have eu1 := hR
    replace hP : va_P (dC, dI) vwCl (fl [(w_X11 ad (b1) cs u1)]) H3 := by rw [← eu1]; exact hP
    replace hD : va_D A (fl [(w_X11 ad (b1) cs u1)]) := by rw [← eu1]; exact hD
    exact W.iret hx hb hr (fun t ht hW => ⟨⟨_, (), rfl, e9, by rw [ht]; exact hP, va_K.moved hW.alike hK, hD⟩, hS.F ht⟩) hS.2.2 dX11_set_39
  · replace hR := it_f hR c6
    refine lv_iload_n hx hb dX11_set_9 rfl (lv_at hl 2 rfl) ?_
    refine lv_iload_n hx hb dX11_set_10 rfl (lv_at hl 1 rfl) ?_
    refine lv_iconst (v := 1) hx hb dX11_set_11 ic_1 ?_
    refine lv_icmp_ne (tgt := 19) hx hb dX11_set_12 (by decide) (fun c12 => ?_) (fun c12 => ?_)
    · replace hR := it_f hR c12
      refine lv_iconst (v := 0) hx hb dX11_set_19 ic_0 ?_
      exact hB20 S1 p2 (0 : Int32) H3 _ ls hR hP hD hS (lv_sub hl [0, 1, 2] rfl)
    · replace hR := it_t hR c12
      refine lv_iconst (v := 1) hx hb dX11_set_15 ic_1 ?_
      refine lv_goto (tgt := 20) hx hb dX11_set_16 (by decide) ?_
      exact hB20 S1 p2 (1 : Int32) H3 _ ls hR hP hD hS (lv_sub hl [0, 1, 2] rfl)
set_option maxHeartbeats 8000000 in
set_option maxRecDepth 100000 in
theorem k_X11_uneven (l : Launch) (dC : Nat → ClassId) (dI : Nat → Nat → Nat) (cs : Nat → ClassId) (ad : Nat → Nat) (sz : Nat) (p0 : Int32) (p1 : Int32) (r : Int32) (hR : fX11_uneven p0 p1 = some r) : Met l yX11_uneven wsX11_uneven ({ frames := 0, cells := 0, slots := 0, locals := 0 } : Room) (va_Pc [.int p0, .int p1] (pW dC dI (tyL cs) (fl []) sz)) (QI dC dI (tyL cs) (va_A (fl []) sz) (fl []) r) 0 0 (va_A (fl []) sz) := by
  refine mt_of (own := RX11) (cc := cX11_uneven) (maxL := 3) (ret := (some .int)) (Qc := fun A => QI dC dI (tyL cs) A (fl []) r) rfl (by decide) rfl (Nat.le_of_ble_eq_true rfl) (fun p e s m below meth c A ls hsz hx hb hr hts hown hlocks hml hA hK hP hD hS hl => ?_)
  subst hsz
  have hl : lv_has ls 3 [(0, .int p0), (1, .int p1)] := hl
  refine lv_iconst (v := 2) hx hb dX11_uneven_0 ic_2 ?_
  refine lv_iload_n hx hb dX11_uneven_1 rfl (lv_at hl 0 rfl) ?_
  refine lv_imul hx hb dX11_uneven_2 ?_
  refine lv_iload_n hx hb dX11_uneven_3 rfl (lv_at hl 1 rfl) ?_
  refine lv_isub hx hb dX11_uneven_4 ?_
  refine lv_istore_n (lv' := [(2, .int (((2 : Int32) * p0) - p1)), (0, .int p0), (1, .int p1)]) hx hb dX11_uneven_5 rfl hl (Nat.le_of_ble_eq_true rfl) rfl (fun ls hl => ?_)
  refine lv_iload_n hx hb dX11_uneven_6 rfl (lv_at hl 0 rfl) ?_
  refine lv_if_ge (tgt := 15) hx hb dX11_uneven_7 (by decide) (fun c7 => ?_) (fun c7 => ?_)
  · replace hR := it_t hR c7
    refine lv_iload_n hx hb dX11_uneven_15 rfl (lv_at hl 0 rfl) ?_
    replace hR := Option.some.inj hR
    have e9 := hR
    exact W.iret hx hb hr (fun t ht hW => ⟨⟨_, (), rfl, e9, by rw [ht]; exact hP, va_K.moved hW.alike hK, hD⟩, hS.F ht⟩) hS.2.2 dX11_uneven_16
  · replace hR := it_f hR c7
    refine lv_iload_n hx hb dX11_uneven_10 rfl (lv_at hl 0 rfl) ?_
    refine lv_ineg hx hb dX11_uneven_11 ?_
    refine lv_goto (tgt := 16) hx hb dX11_uneven_12 (by decide) ?_
    replace hR := Option.some.inj hR
    have e9 := hR
    exact W.iret hx hb hr (fun t ht hW => ⟨⟨_, (), rfl, e9, by rw [ht]; exact hP, va_K.moved hW.alike hK, hD⟩, hS.F ht⟩) hS.2.2 dX11_uneven_16
set_option maxHeartbeats 8000000 in
set_option maxRecDepth 100000 in
theorem k_X11_unevenNow (l : Launch) (dC : Nat → ClassId) (dI : Nat → Nat → Nat) (cs : Nat → ClassId) (ad : Nat → Nat) (b1 : Nat) (sz : Nat) (S1 : T2) (p1 : Int32) (r : Int32) (hR : fX11_unevenNow S1 p1 = some r) : Met l yX11_unevenNow wsX11_unevenNow ({ frames := 3, cells := 0, slots := 0, locals := 67 } : Room) (va_Pc [.ref (ad b1), .int p1] (pW dC dI (tyL cs) (fl [(w_X11 ad (b1) cs S1)]) sz)) (QI dC dI (tyL cs) (va_A (fl [(w_X11 ad (b1) cs S1)]) sz) (fl [(w_X11 ad (b1) cs S1)]) r) 0 0 (va_A (fl [(w_X11 ad (b1) cs S1)]) sz) := by
  refine mt_of (own := RX11) (cc := cX11_unevenNow) (maxL := 2) (ret := (some .int)) (Qc := fun A => QI dC dI (tyL cs) A (fl [(w_X11 ad (b1) cs S1)]) r) rfl (by decide) rfl (Nat.le_of_ble_eq_true rfl) (fun p e s m below meth c A ls hsz hx hb hr hts hown hlocks hml hA hK hP hD hS hl => ?_)
  subst hsz
  have hl : lv_has ls 2 [(0, .ref (ad b1)), (1, .int p1)] := hl
  refine lv_aload_n hx hb dX11_unevenNow_0 rfl (lv_at hl 0 rfl) ?_
  refine lv_iload_n hx hb dX11_unevenNow_1 rfl (lv_at hl 1 rfl) ?_
  replace hR := bd_e hR
  obtain ⟨q2, gq2, hR⟩ := hR
  refine cl_Vi (As := [.int p1]) (rest := []) (L := [(w_X11 ad (b1) cs S1)]) (L' := [(w_X11 ad (b1) cs S1)]) (Wc := [(w_X11 ad (b1) cs S1)]) (Wc' := [(w_X11 ad (b1) cs S1)]) (is := [0]) (js := []) ⟨hx, hb, hml, hown, hts⟩ (k_X11_docked l dC dI cs ad (b1) s.heap.size S1 p1 q2 gq2) (cwV 1 hts gX11_unevenNow_X11_docked rfl rfl rfl cd_X11_docked ⟨Nat.le_of_ble_eq_true rfl, Nat.le_of_ble_eq_true rfl⟩) hK hP hD hS hA ⟨rfl, rfl, rfl, rfl, rfl, rfl⟩ (jn_nd (is := [0]) hD rfl rfl) 0 9 rfl rfl rfl rfl rfl hl.1 (Nat.le_of_ble_eq_true rfl) dX11_unevenNow_2 (fun H2 locs2 hP' hD' hS' => ?_)
  replace hS := hS'
  replace hP : va_P (dC, dI) vwCl (fl [(w_X11 ad (b1) cs S1)]) H2 := hP'
  replace hD : va_D A (fl [(w_X11 ad (b1) cs S1)]) := hD'
  clear hP' hD' hS'
  refine lv_aload_n hx hb dX11_unevenNow_5 rfl (lv_at hl 0 rfl) ?_
  refine lv_iload_n hx hb dX11_unevenNow_6 rfl (lv_at hl 1 rfl) ?_
  refine lv_iconst (v := 1) hx hb dX11_unevenNow_7 ic_1 ?_
  replace hR := bd_e hR
  obtain ⟨q8, gq8, hR⟩ := hR
  refine cl_Vi (As := [.int p1, .int (1 : Int32)]) (rest := [.int q2]) (L := [(w_X11 ad (b1) cs S1)]) (L' := [(w_X11 ad (b1) cs S1)]) (Wc := [(w_X11 ad (b1) cs S1)]) (Wc' := [(w_X11 ad (b1) cs S1)]) (is := [0]) (js := []) ⟨hx, hb, hml, hown, hts⟩ (k_X11_ofStation l dC dI cs ad (b1) H2.size S1 p1 (1 : Int32) q8 gq8) (cwV 2 hts gX11_unevenNow_X11_ofStation rfl rfl rfl cd_X11_ofStation ⟨Nat.le_of_ble_eq_true rfl, Nat.le_of_ble_eq_true rfl⟩) hK hP hD hS hA ⟨rfl, rfl, rfl, rfl, rfl, rfl⟩ (jn_nd (is := [0]) hD rfl rfl) 0 9 rfl rfl rfl rfl rfl hl.1 (Nat.le_of_ble_eq_true rfl) dX11_unevenNow_8 (fun H8 locs8 hP' hD' hS' => ?_)
  replace hS := hS'
  replace hP : va_P (dC, dI) vwCl (fl [(w_X11 ad (b1) cs S1)]) H8 := hP'
  replace hD : va_D A (fl [(w_X11 ad (b1) cs S1)]) := hD'
  clear hP' hD' hS'
  replace hR := bd_e hR
  obtain ⟨q11, gq11, hR⟩ := hR
  refine cl_Si (As := [.int q2, .int q8]) (rest := []) (L := [(w_X11 ad (b1) cs S1)]) (L' := [(w_X11 ad (b1) cs S1)]) (Wc := []) (Wc' := []) (is := []) (js := [0]) ⟨hx, hb, hml, hown, hts⟩ (k_X11_uneven l dC dI cs ad H8.size q2 q8 q11 gq11) (cwS 2 hts gX11_unevenNow_X11_uneven rfl rfl rfl cd_X11_uneven ⟨Nat.le_of_ble_eq_true rfl, Nat.le_of_ble_eq_true rfl⟩) hK hP hD hS hA ⟨rfl, rfl, rfl, rfl, rfl, rfl⟩ (jn_nd (is := []) hD rfl rfl) rfl rfl hl.1 (Nat.le_of_ble_eq_true rfl) dX11_unevenNow_11 (fun H11 locs11 hP' hD' hS' => ?_)
  replace hS := hS'
  replace hP : va_P (dC, dI) vwCl (fl [(w_X11 ad (b1) cs S1)]) H11 := hP'
  replace hD : va_D A (fl [(w_X11 ad (b1) cs S1)]) := hD'
  clear hP' hD' hS'
  replace hR := Option.some.inj hR
  have e9 := hR
  exact W.iret hx hb hr (fun t ht hW => ⟨⟨_, (), rfl, e9, by rw [ht]; exact hP, va_K.moved hW.alike hK, hD⟩, hS.F ht⟩) hS.2.2 dX11_unevenNow_14
set_option maxHeartbeats 8000000 in
set_option maxRecDepth 100000 in
theorem k_X11_allDocks (l : Launch) (dC : Nat → ClassId) (dI : Nat → Nat → Nat) (cs : Nat → ClassId) (ad : Nat → Nat) (b1 : Nat) (sz : Nat) (S1 : T2) (r : Int32) (hR : fX11_allDocks S1 = some r) : Met l yX11_allDocks wsX11_allDocks ({ frames := 1, cells := 0, slots := 0, locals := 22 } : Room) (va_Pc [.ref (ad b1)] (pW dC dI (tyL cs) (fl [(w_X11 ad (b1) cs S1)]) sz)) (QI dC dI (tyL cs) (va_A (fl [(w_X11 ad (b1) cs S1)]) sz) (fl [(w_X11 ad (b1) cs S1)]) r) 0 0 (va_A (fl [(w_X11 ad (b1) cs S1)]) sz) := by
  refine mt_of (own := RX11) (cc := cX11_allDocks) (maxL := 3) (ret := (some .int)) (Qc := fun A => QI dC dI (tyL cs) A (fl [(w_X11 ad (b1) cs S1)]) r) rfl (by decide) rfl (Nat.le_of_ble_eq_true rfl) (fun p e s m below meth c A ls hsz hx hb hr hts hown hlocks hml hA hK hP hD hS hl => ?_)
  subst hsz
  have hl : lv_has ls 3 [(0, .ref (ad b1))] := hl
  have hF7 := hts (.fieldLink RX11 7 "DockedBikesModel" "s" "[I") (List.mem_of_getElem? (i := 1) rfl)
  have hinX11 : ∀ w ∈ wsX110, w ∈ wsX11_allDocks := by decide +kernel
  have hB4 : ∀ (n4 : Nat), ∀ (v1_4 : Int32) (v2_4 : Int32) (H : Heap) (locs : List Loc) (ls : Array Slot), fX11_allDocks_4 S1 n4 v1_4 v2_4 = some r → va_P (dC, dI) vwCl (fl [(w_X11 ad (b1) cs S1)]) H → va_D A (fl [(w_X11 ad (b1) cs S1)]) → va_S A s.heap H locs → lv_has ls 3 [(0, .ref (ad b1)), (1, .int v1_4), (2, .int v2_4)] → W p l e (headSpec wsX11_allDocks ({ frames := 1, cells := 0, slots := 0, locals := 22 } : Room)).room s m ([.ref (ad b1)] : List Value).toArray below meth c H locs 0 0 (MQ below (QI dC dI (tyL cs) A (fl [(w_X11 ad (b1) cs S1)]) r) ([.ref (ad b1)] : List Value).toArray s 0 0 A) (F0 m 4 ls []) := by
    intro n4
    induction n4 with
    | zero =>
      intro v1_4 v2_4 H locs ls hR hP hD hS hl
      exact nn_e hR
    | succ n4 hI4 =>
      intro v1_4 v2_4 H locs ls hR hP hD hS hl
      rw [fX11_allDocks_4] at hR
      refine lv_iload_n hx hb dX11_allDocks_4 rfl (lv_at hl 2 rfl) ?_
      refine lv_aload_n hx hb dX11_allDocks_5 rfl (lv_at hl 0 rfl) ?_
      refine va_get (D := (dC, dI)) (ci := 9) (v := .ref (ad (b1 + 1))) (C := RX11) (T := TX11) (N := 14) hx hb hts hinX11 hown hK hP 0 rfl rfl 0 (by decide) hF7 (fun _ h9 => h9) rfl dX11_allDocks_6 ?_
      refine lv_iconst (v := 0) hx hb dX11_allDocks_9 ic_0 ?_
      refine va_iald hx hb hK hP 1 0 rfl rfl vi_0_206 dX11_allDocks_10 ?_
      refine lv_icmp_ge (tgt := 29) hx hb dX11_allDocks_11 (by decide) (fun c11 => ?_) (fun c11 => ?_)
      · replace hR := it_t hR c11
        refine lv_iload_n hx hb dX11_allDocks_29 rfl (lv_at hl 1 rfl) ?_
        replace hR := Option.some.inj hR
        have e9 := hR
        exact W.iret hx hb hr (fun t ht hW => ⟨⟨_, (), rfl, e9, by rw [ht]; exact hP, va_K.moved hW.alike hK, hD⟩, hS.F ht⟩) hS.2.2 dX11_allDocks_30
      · replace hR := it_f hR c11
        refine lv_iload_n hx hb dX11_allDocks_14 rfl (lv_at hl 1 rfl) ?_
        refine lv_aload_n hx hb dX11_allDocks_15 rfl (lv_at hl 0 rfl) ?_
        refine lv_iload_n hx hb dX11_allDocks_16 rfl (lv_at hl 2 rfl) ?_
        refine lv_iconst (v := 1) hx hb dX11_allDocks_17 ic_1 ?_
        replace hR := bd_e hR
        obtain ⟨q18, gq18, hR⟩ := hR
        refine cl_Vi (As := [.int v2_4, .int (1 : Int32)]) (rest := [.int v1_4]) (L := [(w_X11 ad (b1) cs S1)]) (L' := [(w_X11 ad (b1) cs S1)]) (Wc := [(w_X11 ad (b1) cs S1)]) (Wc' := [(w_X11 ad (b1) cs S1)]) (is := [0]) (js := []) ⟨hx, hb, hml, hown, hts⟩ (k_X11_ofStation l dC dI cs ad (b1) H.size S1 v2_4 (1 : Int32) q18 gq18) (cwV 2 hts gX11_allDocks_X11_ofStation rfl rfl rfl cd_X11_ofStation ⟨Nat.le_of_ble_eq_true rfl, Nat.le_of_ble_eq_true rfl⟩) hK hP hD hS hA ⟨rfl, rfl, rfl, rfl, rfl, rfl⟩ (jn_nd (is := [0]) hD rfl rfl) 0 9 rfl rfl rfl rfl rfl hl.1 (Nat.le_of_ble_eq_true rfl) dX11_allDocks_18 (fun H18 locs18 hP' hD' hS' => ?_)
        replace hS := hS'
        replace hP : va_P (dC, dI) vwCl (fl [(w_X11 ad (b1) cs S1)]) H18 := hP'
        replace hD : va_D A (fl [(w_X11 ad (b1) cs S1)]) := hD'
        clear hP' hD' hS'
        refine lv_iadd hx hb dX11_allDocks_21 ?_
        refine lv_istore_n (lv' := [(1, .int (v1_4 + q18)), (0, .ref (ad b1)), (2, .int v2_4)]) hx hb dX11_allDocks_22 rfl hl (Nat.le_of_ble_eq_true rfl) rfl (fun ls hl => ?_)
        refine lv_iinc (v := (v2_4 + 1)) (lv' := [(2, .int (v2_4 + 1)), (1, .int (v1_4 + q18)), (0, .ref (ad b1))]) hx hb dX11_allDocks_23 hl (k := 2) rfl rfl (Nat.le_of_ble_eq_true rfl) rfl (fun ls hl => ?_)
        refine lv_goto (tgt := 4) hx hb dX11_allDocks_26 (by decide) ?_
        exact hI4 (v1_4 + q18) (v2_4 + 1) H18 _ ls hR hP hD hS (lv_sub hl [2, 1, 0] rfl)
  refine lv_iconst (v := 0) hx hb dX11_allDocks_0 ic_0 ?_
  refine lv_istore_n (lv' := [(1, .int (0 : Int32)), (0, .ref (ad b1))]) hx hb dX11_allDocks_1 rfl hl (Nat.le_of_ble_eq_true rfl) rfl (fun ls hl => ?_)
  refine lv_iconst (v := 0) hx hb dX11_allDocks_2 ic_0 ?_
  refine lv_istore_n (lv' := [(2, .int (0 : Int32)), (1, .int (0 : Int32)), (0, .ref (ad b1))]) hx hb dX11_allDocks_3 rfl hl (Nat.le_of_ble_eq_true rfl) rfl (fun ls hl => ?_)
  exact hB4 fuel (0 : Int32) (0 : Int32) s.heap _ ls hR hP hD hS (lv_sub hl [2, 1, 0] rfl)
set_option maxHeartbeats 8000000 in
set_option maxRecDepth 100000 in
theorem k_X11_inState (l : Launch) (dC : Nat → ClassId) (dI : Nat → Nat → Nat) (cs : Nat → ClassId) (ad : Nat → Nat) (b1 : Nat) (sz : Nat) (S1 : T2) (p1 : Int32) (r : Int32) (hR : fX11_inState S1 p1 = some r) : Met l yX11_inState wsX11_inState ({ frames := 1, cells := 0, slots := 0, locals := 22 } : Room) (va_Pc [.ref (ad b1), .int p1] (pW dC dI (tyL cs) (fl [(w_X11 ad (b1) cs S1)]) sz)) (QI dC dI (tyL cs) (va_A (fl [(w_X11 ad (b1) cs S1)]) sz) (fl [(w_X11 ad (b1) cs S1)]) r) 0 0 (va_A (fl [(w_X11 ad (b1) cs S1)]) sz) := by
  refine mt_of (own := RX11) (cc := cX11_inState) (maxL := 4) (ret := (some .int)) (Qc := fun A => QI dC dI (tyL cs) A (fl [(w_X11 ad (b1) cs S1)]) r) rfl (by decide) rfl (Nat.le_of_ble_eq_true rfl) (fun p e s m below meth c A ls hsz hx hb hr hts hown hlocks hml hA hK hP hD hS hl => ?_)
  subst hsz
  have hl : lv_has ls 4 [(0, .ref (ad b1)), (1, .int p1)] := hl
  have hF7 := hts (.fieldLink RX11 7 "DockedBikesModel" "s" "[I") (List.mem_of_getElem? (i := 1) rfl)
  have hinX11 : ∀ w ∈ wsX110, w ∈ wsX11_inState := by decide +kernel
  have hB4 : ∀ (n4 : Nat), ∀ (v2_4 : Int32) (v3_4 : Int32) (H : Heap) (locs : List Loc) (ls : Array Slot), fX11_inState_4 S1 p1 n4 v2_4 v3_4 = some r → va_P (dC, dI) vwCl (fl [(w_X11 ad (b1) cs S1)]) H → va_D A (fl [(w_X11 ad (b1) cs S1)]) → va_S A s.heap H locs → lv_has ls 4 [(0, .ref (ad b1)), (1, .int p1), (2, .int v2_4), (3, .int v3_4)] → W p l e (headSpec wsX11_inState ({ frames := 1, cells := 0, slots := 0, locals := 22 } : Room)).room s m ([.ref (ad b1), .int p1] : List Value).toArray below meth c H locs 0 0 (MQ below (QI dC dI (tyL cs) A (fl [(w_X11 ad (b1) cs S1)]) r) ([.ref (ad b1), .int p1] : List Value).toArray s 0 0 A) (F0 m 4 ls []) := by
    intro n4
    induction n4 with
    | zero =>
      intro v2_4 v3_4 H locs ls hR hP hD hS hl
      exact nn_e hR
    | succ n4 hI4 =>
      have hB30 : ∀ (v3_30 : Int32) (t0_30 : Int32) (t1_30 : Int32) (H : Heap) (locs : List Loc) (ls : Array Slot), fX11_inState_30 (fX11_inState_4 S1 p1 n4) S1 p1 v3_30 t0_30 t1_30 = some r → va_P (dC, dI) vwCl (fl [(w_X11 ad (b1) cs S1)]) H → va_D A (fl [(w_X11 ad (b1) cs S1)]) → va_S A s.heap H locs → lv_has ls 4 [(0, .ref (ad b1)), (1, .int p1), (3, .int v3_30)] → W p l e (headSpec wsX11_inState ({ frames := 1, cells := 0, slots := 0, locals := 22 } : Room)).room s m ([.ref (ad b1), .int p1] : List Value).toArray below meth c H locs 0 0 (MQ below (QI dC dI (tyL cs) A (fl [(w_X11 ad (b1) cs S1)]) r) ([.ref (ad b1), .int p1] : List Value).toArray s 0 0 A) (F0 m 30 ls [.int t1_30, .int t0_30]) := by
        intro v3_30 t0_30 t1_30 H locs ls hR hP hD hS hl
        refine lv_iadd hx hb dX11_inState_30 ?_
        refine lv_istore_n (lv' := [(2, .int (t0_30 + t1_30)), (0, .ref (ad b1)), (1, .int p1), (3, .int v3_30)]) hx hb dX11_inState_31 rfl hl (Nat.le_of_ble_eq_true rfl) rfl (fun ls hl => ?_)
        refine lv_iinc (v := (v3_30 + 1)) (lv' := [(3, .int (v3_30 + 1)), (2, .int (t0_30 + t1_30)), (0, .ref (ad b1)), (1, .int p1)]) hx hb dX11_inState_32 hl (k := 3) rfl rfl (Nat.le_of_ble_eq_true rfl) rfl (fun ls hl => ?_)
        refine lv_goto (tgt := 4) hx hb dX11_inState_35 (by decide) ?_
        exact hI4 (t0_30 + t1_30) (v3_30 + 1) H _ ls hR hP hD hS (lv_sub hl [2, 3, 1, 0] rfl)
      intro v2_4 v3_4 H locs ls hR hP hD hS hl
      rw [fX11_inState_4] at hR
      refine lv_iload_n hx hb dX11_inState_4 rfl (lv_at hl 3 rfl) ?_
      refine lv_aload_n hx hb dX11_inState_5 rfl (lv_at hl 0 rfl) ?_
      refine va_get (D := (dC, dI)) (ci := 9) (v := .ref (ad (b1 + 1))) (C := RX11) (T := TX11) (N := 14) hx hb hts hinX11 hown hK hP 0 rfl rfl 0 (by decide) hF7 (fun _ h9 => h9) rfl dX11_inState_6 ?_
      refine lv_iconst (v := 1) hx hb dX11_inState_9 ic_1 ?_
      refine va_iald hx hb hK hP 1 0 rfl rfl vi_1_206 dX11_inState_10 ?_
      refine lv_icmp_ge (tgt := 38) hx hb dX11_inState_11 (by decide) (fun c11 => ?_) (fun c11 => ?_)
      · replace hR := it_t hR c11
        refine lv_iload_n hx hb dX11_inState_38 rfl (lv_at hl 2 rfl) ?_
        replace hR := Option.some.inj hR
        have e9 := hR
        exact W.iret hx hb hr (fun t ht hW => ⟨⟨_, (), rfl, e9, by rw [ht]; exact hP, va_K.moved hW.alike hK, hD⟩, hS.F ht⟩) hS.2.2 dX11_inState_39
      · replace hR := it_f hR c11
        refine lv_iload_n hx hb dX11_inState_14 rfl (lv_at hl 2 rfl) ?_
        refine lv_aload_n hx hb dX11_inState_15 rfl (lv_at hl 0 rfl) ?_
        refine lv_iload_n hx hb dX11_inState_16 rfl (lv_at hl 3 rfl) ?_
        refine lv_iconst (v := 0) hx hb dX11_inState_17 ic_0 ?_
        replace hR := bd_e hR
        obtain ⟨q18, gq18, hR⟩ := hR
        refine cl_Vi (As := [.int v3_4, .int (0 : Int32)]) (rest := [.int v2_4]) (L := [(w_X11 ad (b1) cs S1)]) (L' := [(w_X11 ad (b1) cs S1)]) (Wc := [(w_X11 ad (b1) cs S1)]) (Wc' := [(w_X11 ad (b1) cs S1)]) (is := [0]) (js := []) ⟨hx, hb, hml, hown, hts⟩ (k_X11_ofBicycle l dC dI cs ad (b1) H.size S1 v3_4 (0 : Int32) q18 gq18) (cwV 2 hts gX11_inState_X11_ofBicycle rfl rfl rfl cd_X11_ofBicycle ⟨Nat.le_of_ble_eq_true rfl, Nat.le_of_ble_eq_true rfl⟩) hK hP hD hS hA ⟨rfl, rfl, rfl, rfl, rfl, rfl⟩ (jn_nd (is := [0]) hD rfl rfl) 0 9 rfl rfl rfl rfl rfl hl.1 (Nat.le_of_ble_eq_true rfl) dX11_inState_18 (fun H18 locs18 hP' hD' hS' => ?_)
        replace hS := hS'
        replace hP : va_P (dC, dI) vwCl (fl [(w_X11 ad (b1) cs S1)]) H18 := hP'
        replace hD : va_D A (fl [(w_X11 ad (b1) cs S1)]) := hD'
        clear hP' hD' hS'
        refine lv_iload_n hx hb dX11_inState_21 rfl (lv_at hl 1 rfl) ?_
        refine lv_icmp_ne (tgt := 29) hx hb dX11_inState_22 (by decide) (fun c22 => ?_) (fun c22 => ?_)
        · replace hR := it_f hR c22
          refine lv_iconst (v := 0) hx hb dX11_inState_29 ic_0 ?_
          exact hB30 v3_4 v2_4 (0 : Int32) H18 _ ls hR hP hD hS (lv_sub hl [0, 1, 3] rfl)
        · replace hR := it_t hR c22
          refine lv_iconst (v := 1) hx hb dX11_inState_25 ic_1 ?_
          refine lv_goto (tgt := 30) hx hb dX11_inState_26 (by decide) ?_
          exact hB30 v3_4 v2_4 (1 : Int32) H18 _ ls hR hP hD hS (lv_sub hl [0, 1, 3] rfl)
  refine lv_iconst (v := 0) hx hb dX11_inState_0 ic_0 ?_
  refine lv_istore_n (lv' := [(2, .int (0 : Int32)), (0, .ref (ad b1)), (1, .int p1)]) hx hb dX11_inState_1 rfl hl (Nat.le_of_ble_eq_true rfl) rfl (fun ls hl => ?_)
  refine lv_iconst (v := 0) hx hb dX11_inState_2 ic_0 ?_
  refine lv_istore_n (lv' := [(3, .int (0 : Int32)), (2, .int (0 : Int32)), (0, .ref (ad b1)), (1, .int p1)]) hx hb dX11_inState_3 rfl hl (Nat.le_of_ble_eq_true rfl) rfl (fun ls hl => ?_)
  exact hB4 fuel (0 : Int32) (0 : Int32) s.heap _ ls hR hP hD hS (lv_sub hl [2, 3, 1, 0] rfl)
set_option maxHeartbeats 8000000 in
set_option maxRecDepth 100000 in
theorem k_X11_aim (l : Launch) (dC : Nat → ClassId) (dI : Nat → Nat → Nat) (cs : Nat → ClassId) (ad : Nat → Nat) (b1 : Nat) (sz : Nat) (S1 : T2) (p1 : Int32) (r : Int32) (hR : fX11_aim S1 p1 = some r) : Met l yX11_aim wsX11_aim ({ frames := 2, cells := 0, slots := 0, locals := 45 } : Room) (va_Pc [.ref (ad b1), .int p1] (pW dC dI (tyL cs) (fl [(w_X11 ad (b1) cs S1)]) sz)) (QI dC dI (tyL cs) (va_A (fl [(w_X11 ad (b1) cs S1)]) sz) (fl [(w_X11 ad (b1) cs S1)]) r) 0 0 (va_A (fl [(w_X11 ad (b1) cs S1)]) sz) := by
  refine mt_of (own := RX11) (cc := cX11_aim) (maxL := 6) (ret := (some .int)) (Qc := fun A => QI dC dI (tyL cs) A (fl [(w_X11 ad (b1) cs S1)]) r) rfl (by decide) rfl (Nat.le_of_ble_eq_true rfl) (fun p e s m below meth c A ls hsz hx hb hr hts hown hlocks hml hA hK hP hD hS hl => ?_)
  subst hsz
  have hl : lv_has ls 6 [(0, .ref (ad b1)), (1, .int p1)] := hl
  have hF7 := hts (.fieldLink RX11 7 "DockedBikesModel" "s" "[I") (List.mem_of_getElem? (i := 1) rfl)
  have hinX11 : ∀ w ∈ wsX110, w ∈ wsX11_aim := by decide +kernel
  have hB71 : ∀ (t0_71 : Int32) (t1_71 : Int32) (H : Heap) (locs : List Loc) (ls : Array Slot), fX11_aim_71 S1 p1 t0_71 t1_71 = some r → va_P (dC, dI) vwCl (fl [(w_X11 ad (b1) cs S1)]) H → va_D A (fl [(w_X11 ad (b1) cs S1)]) → va_S A s.heap H locs → lv_has ls 6 [] → W p l e (headSpec wsX11_aim ({ frames := 2, cells := 0, slots := 0, locals := 45 } : Room)).room s m ([.ref (ad b1), .int p1] : List Value).toArray below meth c H locs 0 0 (MQ below (QI dC dI (tyL cs) A (fl [(w_X11 ad (b1) cs S1)]) r) ([.ref (ad b1), .int p1] : List Value).toArray s 0 0 A) (F0 m 71 ls [.int t1_71, .int t0_71]) := by
    intro t0_71 t1_71 H locs ls hR hP hD hS hl
    refine lv_iadd hx hb dX11_aim_71 ?_
    replace hR := Option.some.inj hR
    have e9 := hR
    exact W.iret hx hb hr (fun t ht hW => ⟨⟨_, (), rfl, e9, by rw [ht]; exact hP, va_K.moved hW.alike hK, hD⟩, hS.F ht⟩) hS.2.2 dX11_aim_72
  have hB17 : ∀ (n17 : Nat), ∀ (v2_17 : Int32) (v3_17 : Int32) (v4_17 : Int32) (v5_17 : Int32) (H : Heap) (locs : List Loc) (ls : Array Slot), fX11_aim_17 S1 p1 n17 v2_17 v3_17 v4_17 v5_17 = some r → va_P (dC, dI) vwCl (fl [(w_X11 ad (b1) cs S1)]) H → va_D A (fl [(w_X11 ad (b1) cs S1)]) → va_S A s.heap H locs → lv_has ls 6 [(0, .ref (ad b1)), (1, .int p1), (2, .int v2_17), (3, .int v3_17), (4, .int v4_17), (5, .int v5_17)] → W p l e (headSpec wsX11_aim ({ frames := 2, cells := 0, slots := 0, locals := 45 } : Room)).room s m ([.ref (ad b1), .int p1] : List Value).toArray below meth c H locs 0 0 (MQ below (QI dC dI (tyL cs) A (fl [(w_X11 ad (b1) cs S1)]) r) ([.ref (ad b1), .int p1] : List Value).toArray s 0 0 A) (F0 m 17 ls []) := by
    intro n17
    induction n17 with
    | zero =>
      intro v2_17 v3_17 v4_17 v5_17 H locs ls hR hP hD hS hl
      exact nn_e hR
    | succ n17 hI17 =>
      intro v2_17 v3_17 v4_17 v5_17 H locs ls hR hP hD hS hl
      rw [fX11_aim_17] at hR
      refine lv_iload hx hb dX11_aim_17 (lv_at hl 5 rfl) ?_
      refine lv_aload_n hx hb dX11_aim_19 rfl (lv_at hl 0 rfl) ?_
      refine va_get (D := (dC, dI)) (ci := 9) (v := .ref (ad (b1 + 1))) (C := RX11) (T := TX11) (N := 14) hx hb hts hinX11 hown hK hP 0 rfl rfl 0 (by decide) hF7 (fun _ h9 => h9) rfl dX11_aim_20 ?_
      refine lv_iconst (v := 0) hx hb dX11_aim_23 ic_0 ?_
      refine va_iald hx hb hK hP 1 0 rfl rfl vi_0_206 dX11_aim_24 ?_
      refine lv_icmp_ge (tgt := 50) hx hb dX11_aim_25 (by decide) (fun c25 => ?_) (fun c25 => ?_)
      · replace hR := it_t hR c25
        refine lv_aload_n hx hb dX11_aim_50 rfl (lv_at hl 0 rfl) ?_
        refine lv_iload_n hx hb dX11_aim_51 rfl (lv_at hl 1 rfl) ?_
        refine lv_iconst (v := 1) hx hb dX11_aim_52 ic_1 ?_
        replace hR := bd_e hR
        obtain ⟨q53, gq53, hR⟩ := hR
        refine cl_Vi (As := [.int p1, .int (1 : Int32)]) (rest := []) (L := [(w_X11 ad (b1) cs S1)]) (L' := [(w_X11 ad (b1) cs S1)]) (Wc := [(w_X11 ad (b1) cs S1)]) (Wc' := [(w_X11 ad (b1) cs S1)]) (is := [0]) (js := []) ⟨hx, hb, hml, hown, hts⟩ (k_X11_ofStation l dC dI cs ad (b1) H.size S1 p1 (1 : Int32) q53 gq53) (cwV 2 hts gX11_aim_X11_ofStation rfl rfl rfl cd_X11_ofStation ⟨Nat.le_of_ble_eq_true rfl, Nat.le_of_ble_eq_true rfl⟩) hK hP hD hS hA ⟨rfl, rfl, rfl, rfl, rfl, rfl⟩ (jn_nd (is := [0]) hD rfl rfl) 0 9 rfl rfl rfl rfl rfl hl.1 (Nat.le_of_ble_eq_true rfl) dX11_aim_53 (fun H53 locs53 hP' hD' hS' => ?_)
        replace hS := hS'
        replace hP : va_P (dC, dI) vwCl (fl [(w_X11 ad (b1) cs S1)]) H53 := hP'
        replace hD : va_D A (fl [(w_X11 ad (b1) cs S1)]) := hD'
        clear hP' hD' hS'
        refine lv_iload_n hx hb dX11_aim_56 rfl (lv_at hl 2 rfl) ?_
        refine lv_imul hx hb dX11_aim_57 ?_
        refine lv_iload_n hx hb dX11_aim_58 rfl (lv_at hl 3 rfl) ?_
        replace hR := nz_e hR
        obtain ⟨z59, hR⟩ := hR
        refine lv_idiv hx hb dX11_aim_59 z59 ?_
        refine lv_iload_n hx hb dX11_aim_60 rfl (lv_at hl 1 rfl) ?_
        refine lv_iload hx hb dX11_aim_61 (lv_at hl 4 rfl) ?_
        refine lv_icmp_ge (tgt := 70) hx hb dX11_aim_63 (by decide) (fun c63 => ?_) (fun c63 => ?_)
        · replace hR := it_t hR c63
          refine lv_iconst (v := 0) hx hb dX11_aim_70 ic_0 ?_
          exact hB71 ((q53 * v2_17) / v3_17) (0 : Int32) H53 _ ls hR hP hD hS (lv_sub hl [] rfl)
        · replace hR := it_f hR c63
          refine lv_iconst (v := 1) hx hb dX11_aim_66 ic_1 ?_
          refine lv_goto (tgt := 71) hx hb dX11_aim_67 (by decide) ?_
          exact hB71 ((q53 * v2_17) / v3_17) (1 : Int32) H53 _ ls hR hP hD hS (lv_sub hl [] rfl)
      · replace hR := it_f hR c25
        refine lv_iload hx hb dX11_aim_28 (lv_at hl 4 rfl) ?_
        refine lv_aload_n hx hb dX11_aim_30 rfl (lv_at hl 0 rfl) ?_
        refine lv_iload hx hb dX11_aim_31 (lv_at hl 5 rfl) ?_
        refine lv_iconst (v := 1) hx hb dX11_aim_33 ic_1 ?_
        replace hR := bd_e hR
        obtain ⟨q34, gq34, hR⟩ := hR
        refine cl_Vi (As := [.int v5_17, .int (1 : Int32)]) (rest := [.int v4_17]) (L := [(w_X11 ad (b1) cs S1)]) (L' := [(w_X11 ad (b1) cs S1)]) (Wc := [(w_X11 ad (b1) cs S1)]) (Wc' := [(w_X11 ad (b1) cs S1)]) (is := [0]) (js := []) ⟨hx, hb, hml, hown, hts⟩ (k_X11_ofStation l dC dI cs ad (b1) H.size S1 v5_17 (1 : Int32) q34 gq34) (cwV 2 hts gX11_aim_X11_ofStation rfl rfl rfl cd_X11_ofStation ⟨Nat.le_of_ble_eq_true rfl, Nat.le_of_ble_eq_true rfl⟩) hK hP hD hS hA ⟨rfl, rfl, rfl, rfl, rfl, rfl⟩ (jn_nd (is := [0]) hD rfl rfl) 0 9 rfl rfl rfl rfl rfl hl.1 (Nat.le_of_ble_eq_true rfl) dX11_aim_34 (fun H34 locs34 hP' hD' hS' => ?_)
        replace hS := hS'
        replace hP : va_P (dC, dI) vwCl (fl [(w_X11 ad (b1) cs S1)]) H34 := hP'
        replace hD : va_D A (fl [(w_X11 ad (b1) cs S1)]) := hD'
        clear hP' hD' hS'
        refine lv_iload_n hx hb dX11_aim_37 rfl (lv_at hl 2 rfl) ?_
        refine lv_imul hx hb dX11_aim_38 ?_
        refine lv_iload_n hx hb dX11_aim_39 rfl (lv_at hl 3 rfl) ?_
        replace hR := nz_e hR
        obtain ⟨z40, hR⟩ := hR
        refine lv_idiv hx hb dX11_aim_40 z40 ?_
        refine lv_isub hx hb dX11_aim_41 ?_
        refine lv_istore (lv' := [(4, .int (v4_17 - ((q34 * v2_17) / v3_17))), (0, .ref (ad b1)), (1, .int p1), (2, .int v2_17), (3, .int v3_17), (5, .int v5_17)]) hx hb dX11_aim_42 hl (Nat.le_of_ble_eq_true rfl) rfl (fun ls hl => ?_)
        refine lv_iinc (v := (v5_17 + 1)) (lv' := [(5, .int (v5_17 + 1)), (4, .int (v4_17 - ((q34 * v2_17) / v3_17))), (0, .ref (ad b1)), (1, .int p1), (2, .int v2_17), (3, .int v3_17)]) hx hb dX11_aim_44 hl (k := 5) rfl rfl (Nat.le_of_ble_eq_true rfl) rfl (fun ls hl => ?_)
        refine lv_goto (tgt := 17) hx hb dX11_aim_47 (by decide) ?_
        exact hI17 v2_17 v3_17 (v4_17 - ((q34 * v2_17) / v3_17)) (v5_17 + 1) H34 _ ls hR hP hD hS (lv_sub hl [2, 3, 4, 5, 1, 0] rfl)
  refine lv_aload_n hx hb dX11_aim_0 rfl (lv_at hl 0 rfl) ?_
  refine lv_iconst (v := 0) hx hb dX11_aim_1 ic_0 ?_
  replace hR := bd_e hR
  obtain ⟨q2, gq2, hR⟩ := hR
  refine cl_Vi (As := [.int (0 : Int32)]) (rest := []) (L := [(w_X11 ad (b1) cs S1)]) (L' := [(w_X11 ad (b1) cs S1)]) (Wc := [(w_X11 ad (b1) cs S1)]) (Wc' := [(w_X11 ad (b1) cs S1)]) (is := [0]) (js := []) ⟨hx, hb, hml, hown, hts⟩ (k_X11_inState l dC dI cs ad (b1) s.heap.size S1 (0 : Int32) q2 gq2) (cwV 1 hts gX11_aim_X11_inState rfl rfl rfl cd_X11_inState ⟨Nat.le_of_ble_eq_true rfl, Nat.le_of_ble_eq_true rfl⟩) hK hP hD hS hA ⟨rfl, rfl, rfl, rfl, rfl, rfl⟩ (jn_nd (is := [0]) hD rfl rfl) 0 9 rfl rfl rfl rfl rfl hl.1 (Nat.le_of_ble_eq_true rfl) dX11_aim_2 (fun H2 locs2 hP' hD' hS' => ?_)
  replace hS := hS'
  replace hP : va_P (dC, dI) vwCl (fl [(w_X11 ad (b1) cs S1)]) H2 := hP'
  replace hD : va_D A (fl [(w_X11 ad (b1) cs S1)]) := hD'
  clear hP' hD' hS'
  refine lv_istore_n (lv' := [(2, .int q2), (0, .ref (ad b1)), (1, .int p1)]) hx hb dX11_aim_5 rfl hl (Nat.le_of_ble_eq_true rfl) rfl (fun ls hl => ?_)
  refine lv_aload_n hx hb dX11_aim_6 rfl (lv_at hl 1 rfl) ?_
  replace hR := bd_e hR
  obtain ⟨q7, gq7, hR⟩ := hR
  refine cl_Vi (As := []) (rest := []) (L := [(w_X11 ad (b1) cs S1)]) (L' := [(w_X11 ad (b1) cs S1)]) (Wc := [(w_X11 ad (b1) cs S1)]) (Wc' := [(w_X11 ad (b1) cs S1)]) (is := [0]) (js := []) ⟨hx, hb, hml, hown, hts⟩ (k_X11_allDocks l dC dI cs ad (b1) H2.size S1 q7 gq7) (cwV 0 hts gX11_aim_X11_allDocks rfl rfl rfl cd_X11_allDocks ⟨Nat.le_of_ble_eq_true rfl, Nat.le_of_ble_eq_true rfl⟩) hK hP hD hS hA ⟨rfl, rfl, rfl, rfl, rfl, rfl⟩ (jn_nd (is := [0]) hD rfl rfl) 0 9 rfl rfl rfl rfl rfl hl.1 (Nat.le_of_ble_eq_true rfl) dX11_aim_7 (fun H7 locs7 hP' hD' hS' => ?_)
  replace hS := hS'
  replace hP : va_P (dC, dI) vwCl (fl [(w_X11 ad (b1) cs S1)]) H7 := hP'
  replace hD : va_D A (fl [(w_X11 ad (b1) cs S1)]) := hD'
  clear hP' hD' hS'
  refine lv_istore_n (lv' := [(3, .int q7), (2, .int q2), (0, .ref (ad b1)), (1, .int p1)]) hx hb dX11_aim_10 rfl hl (Nat.le_of_ble_eq_true rfl) rfl (fun ls hl => ?_)
  refine lv_iload_n hx hb dX11_aim_11 rfl (lv_at hl 1 rfl) ?_
  refine lv_istore (lv' := [(4, .int q2), (3, .int q7), (2, .int q2), (0, .ref (ad b1)), (1, .int p1)]) hx hb dX11_aim_12 hl (Nat.le_of_ble_eq_true rfl) rfl (fun ls hl => ?_)
  refine lv_iconst (v := 0) hx hb dX11_aim_14 ic_0 ?_
  refine lv_istore (lv' := [(5, .int (0 : Int32)), (4, .int q2), (3, .int q7), (2, .int q2), (0, .ref (ad b1)), (1, .int p1)]) hx hb dX11_aim_15 hl (Nat.le_of_ble_eq_true rfl) rfl (fun ls hl => ?_)
  exact hB17 fuel q2 q7 q2 (0 : Int32) H7 _ ls hR hP hD hS (lv_sub hl [4, 5, 3, 2, 1, 0] rfl)
set_option maxHeartbeats 8000000 in
set_option maxRecDepth 100000 in
theorem k_X11_stationOf (l : Launch) (dC : Nat → ClassId) (dI : Nat → Nat → Nat) (cs : Nat → ClassId) (ad : Nat → Nat) (b1 : Nat) (sz : Nat) (S1 : T2) (p1 : Int32) (p2 : Int32) (r : Int32) (hR : fX11_stationOf S1 p1 p2 = some r) : Met l yX11_stationOf wsX11_stationOf ({ frames := 4, cells := 0, slots := 0, locals := 88 } : Room) (va_Pc [.ref (ad b1), .int p1, .int p2] (pW dC dI (tyL cs) (fl [(w_X11 ad (b1) cs S1)]) sz)) (QI dC dI (tyL cs) (va_A (fl [(w_X11 ad (b1) cs S1)]) sz) (fl [(w_X11 ad (b1) cs S1)]) r) 0 0 (va_A (fl [(w_X11 ad (b1) cs S1)]) sz) := by
  refine mt_of (own := RX11) (cc := cX11_stationOf) (maxL := 3) (ret := (some .int)) (Qc := fun A => QI dC dI (tyL cs) A (fl [(w_X11 ad (b1) cs S1)]) r) rfl (by decide) rfl (Nat.le_of_ble_eq_true rfl) (fun p e s m below meth c A ls hsz hx hb hr hts hown hlocks hml hA hK hP hD hS hl => ?_)
  subst hsz
  have hl : lv_has ls 3 [(0, .ref (ad b1)), (1, .int p1), (2, .int p2)] := hl
  refine lv_aload_n hx hb dX11_stationOf_0 rfl (lv_at hl 0 rfl) ?_
  refine lv_iload_n hx hb dX11_stationOf_1 rfl (lv_at hl 1 rfl) ?_
  replace hR := bd_e hR
  obtain ⟨q2, gq2, hR⟩ := hR
  refine cl_Vi (As := [.int p1]) (rest := []) (L := [(w_X11 ad (b1) cs S1)]) (L' := [(w_X11 ad (b1) cs S1)]) (Wc := [(w_X11 ad (b1) cs S1)]) (Wc' := [(w_X11 ad (b1) cs S1)]) (is := [0]) (js := []) ⟨hx, hb, hml, hown, hts⟩ (k_X11_isStation l dC dI cs ad (b1) s.heap.size S1 p1 q2 gq2) (cwV 1 hts gX11_stationOf_X11_isStation rfl rfl rfl cd_X11_isStation ⟨Nat.le_of_ble_eq_true rfl, Nat.le_of_ble_eq_true rfl⟩) hK hP hD hS hA ⟨rfl, rfl, rfl, rfl, rfl, rfl⟩ (jn_nd (is := [0]) hD rfl rfl) 0 9 rfl rfl rfl rfl rfl hl.1 (Nat.le_of_ble_eq_true rfl) dX11_stationOf_2 (fun H2 locs2 hP' hD' hS' => ?_)
  replace hS := hS'
  replace hP : va_P (dC, dI) vwCl (fl [(w_X11 ad (b1) cs S1)]) H2 := hP'
  replace hD : va_D A (fl [(w_X11 ad (b1) cs S1)]) := hD'
  clear hP' hD' hS'
  refine lv_if_eq (tgt := 18) hx hb dX11_stationOf_5 (by decide) (fun c5 => ?_) (fun c5 => ?_)
  · replace hR := it_t hR c5
    refine lv_iconst (v := (-1)) hx hb dX11_stationOf_18 ic_m1 ?_
    replace hR := Option.some.inj hR
    have e9 := hR
    exact W.iret hx hb hr (fun t ht hW => ⟨⟨_, (), rfl, e9, by rw [ht]; exact hP, va_K.moved hW.alike hK, hD⟩, hS.F ht⟩) hS.2.2 dX11_stationOf_19
  · replace hR := it_f hR c5
    refine lv_iload_n hx hb dX11_stationOf_8 rfl (lv_at hl 2 rfl) ?_
    refine lv_iconst (v := 0) hx hb dX11_stationOf_9 ic_0 ?_
    refine lv_bipush (v := 6) hx hb dX11_stationOf_10 bp_6 ?_
    replace hR := bd_e hR
    obtain ⟨q12, gq12, hR⟩ := hR
    refine cl_Si (As := [.int p2, .int (0 : Int32), .int (6 : Int32)]) (rest := []) (L := [(w_X11 ad (b1) cs S1)]) (L' := [(w_X11 ad (b1) cs S1)]) (Wc := []) (Wc' := []) (is := []) (js := [0]) ⟨hx, hb, hml, hown, hts⟩ (k_X11_in l dC dI cs ad H2.size p2 (0 : Int32) (6 : Int32) q12 gq12) (cwS 3 hts gX11_stationOf_X11_in rfl rfl rfl cd_X11_in ⟨Nat.le_of_ble_eq_true rfl, Nat.le_of_ble_eq_true rfl⟩) hK hP hD hS hA ⟨rfl, rfl, rfl, rfl, rfl, rfl⟩ (jn_nd (is := []) hD rfl rfl) rfl rfl hl.1 (Nat.le_of_ble_eq_true rfl) dX11_stationOf_12 (fun H12 locs12 hP' hD' hS' => ?_)
    replace hS := hS'
    replace hP : va_P (dC, dI) vwCl (fl [(w_X11 ad (b1) cs S1)]) H12 := hP'
    replace hD : va_D A (fl [(w_X11 ad (b1) cs S1)]) := hD'
    clear hP' hD' hS'
    refine lv_if_ne (tgt := 20) hx hb dX11_stationOf_15 (by decide) (fun c15 => ?_) (fun c15 => ?_)
    · replace hR := it_f hR c15
      refine lv_iload_n hx hb dX11_stationOf_20 rfl (lv_at hl 2 rfl) ?_
      by_cases c21_0 : p2 = 0
      · replace hR := it_t hR c21_0
        refine lv_tableIn (off := 35) (tgt := 56) hx hb dX11_stationOf_21 (by rw [c21_0]; decide) (by rw [c21_0]; decide) (by rw [c21_0]; rfl) (by decide) ?_
        refine lv_aload_n hx hb dX11_stationOf_56 rfl (lv_at hl 0 rfl) ?_
        refine lv_iload_n hx hb dX11_stationOf_57 rfl (lv_at hl 1 rfl) ?_
        refine lv_iload_n hx hb dX11_stationOf_58 rfl (lv_at hl 2 rfl) ?_
        replace hR := bd_e hR
        obtain ⟨q59, gq59, hR⟩ := hR
        refine cl_Vi (As := [.int p1, .int p2]) (rest := []) (L := [(w_X11 ad (b1) cs S1)]) (L' := [(w_X11 ad (b1) cs S1)]) (Wc := [(w_X11 ad (b1) cs S1)]) (Wc' := [(w_X11 ad (b1) cs S1)]) (is := [0]) (js := []) ⟨hx, hb, hml, hown, hts⟩ (k_X11_ofStation l dC dI cs ad (b1) H12.size S1 p1 p2 q59 gq59) (cwV 2 hts gX11_stationOf_X11_ofStation rfl rfl rfl cd_X11_ofStation ⟨Nat.le_of_ble_eq_true rfl, Nat.le_of_ble_eq_true rfl⟩) hK hP hD hS hA ⟨rfl, rfl, rfl, rfl, rfl, rfl⟩ (jn_nd (is := [0]) hD rfl rfl) 0 9 rfl rfl rfl rfl rfl hl.1 (Nat.le_of_ble_eq_true rfl) dX11_stationOf_59 (fun H59 locs59 hP' hD' hS' => ?_)
        replace hS := hS'
        replace hP : va_P (dC, dI) vwCl (fl [(w_X11 ad (b1) cs S1)]) H59 := hP'
        replace hD : va_D A (fl [(w_X11 ad (b1) cs S1)]) := hD'
        clear hP' hD' hS'
        replace hR := Option.some.inj hR
        have e9 := hR
        exact W.iret hx hb hr (fun t ht hW => ⟨⟨_, (), rfl, e9, by rw [ht]; exact hP, va_K.moved hW.alike hK, hD⟩, hS.F ht⟩) hS.2.2 dX11_stationOf_62
      · replace hR := it_f hR c21_0
        by_cases c21_1 : p2 = 1
        · replace hR := it_t hR c21_1
          refine lv_tableIn (off := 35) (tgt := 56) hx hb dX11_stationOf_21 (by rw [c21_1]; decide) (by rw [c21_1]; decide) (by rw [c21_1]; rfl) (by decide) ?_
          refine lv_aload_n hx hb dX11_stationOf_56 rfl (lv_at hl 0 rfl) ?_
          refine lv_iload_n hx hb dX11_stationOf_57 rfl (lv_at hl 1 rfl) ?_
          refine lv_iload_n hx hb dX11_stationOf_58 rfl (lv_at hl 2 rfl) ?_
          replace hR := bd_e hR
          obtain ⟨q59, gq59, hR⟩ := hR
          refine cl_Vi (As := [.int p1, .int p2]) (rest := []) (L := [(w_X11 ad (b1) cs S1)]) (L' := [(w_X11 ad (b1) cs S1)]) (Wc := [(w_X11 ad (b1) cs S1)]) (Wc' := [(w_X11 ad (b1) cs S1)]) (is := [0]) (js := []) ⟨hx, hb, hml, hown, hts⟩ (k_X11_ofStation l dC dI cs ad (b1) H12.size S1 p1 p2 q59 gq59) (cwV 2 hts gX11_stationOf_X11_ofStation rfl rfl rfl cd_X11_ofStation ⟨Nat.le_of_ble_eq_true rfl, Nat.le_of_ble_eq_true rfl⟩) hK hP hD hS hA ⟨rfl, rfl, rfl, rfl, rfl, rfl⟩ (jn_nd (is := [0]) hD rfl rfl) 0 9 rfl rfl rfl rfl rfl hl.1 (Nat.le_of_ble_eq_true rfl) dX11_stationOf_59 (fun H59 locs59 hP' hD' hS' => ?_)
          replace hS := hS'
          replace hP : va_P (dC, dI) vwCl (fl [(w_X11 ad (b1) cs S1)]) H59 := hP'
          replace hD : va_D A (fl [(w_X11 ad (b1) cs S1)]) := hD'
          clear hP' hD' hS'
          replace hR := Option.some.inj hR
          have e9 := hR
          exact W.iret hx hb hr (fun t ht hW => ⟨⟨_, (), rfl, e9, by rw [ht]; exact hP, va_K.moved hW.alike hK, hD⟩, hS.F ht⟩) hS.2.2 dX11_stationOf_62
        · replace hR := it_f hR c21_1
          by_cases c21_2 : p2 = 2
          · replace hR := it_t hR c21_2
            refine lv_tableIn (off := 42) (tgt := 63) hx hb dX11_stationOf_21 (by rw [c21_2]; decide) (by rw [c21_2]; decide) (by rw [c21_2]; rfl) (by decide) ?_
            refine lv_aload_n hx hb dX11_stationOf_63 rfl (lv_at hl 0 rfl) ?_
            refine lv_iconst (v := 0) hx hb dX11_stationOf_64 ic_0 ?_
            refine lv_iload_n hx hb dX11_stationOf_65 rfl (lv_at hl 1 rfl) ?_
            replace hR := bd_e hR
            obtain ⟨q66, gq66, hR⟩ := hR
            refine cl_Vi (As := [.int (0 : Int32), .int p1]) (rest := []) (L := [(w_X11 ad (b1) cs S1)]) (L' := [(w_X11 ad (b1) cs S1)]) (Wc := [(w_X11 ad (b1) cs S1)]) (Wc' := [(w_X11 ad (b1) cs S1)]) (is := [0]) (js := []) ⟨hx, hb, hml, hown, hts⟩ (k_X11_those l dC dI cs ad (b1) H12.size S1 (0 : Int32) p1 q66 gq66) (cwV 2 hts gX11_stationOf_X11_those rfl rfl rfl cd_X11_those ⟨Nat.le_of_ble_eq_true rfl, Nat.le_of_ble_eq_true rfl⟩) hK hP hD hS hA ⟨rfl, rfl, rfl, rfl, rfl, rfl⟩ (jn_nd (is := [0]) hD rfl rfl) 0 9 rfl rfl rfl rfl rfl hl.1 (Nat.le_of_ble_eq_true rfl) dX11_stationOf_66 (fun H66 locs66 hP' hD' hS' => ?_)
            replace hS := hS'
            replace hP : va_P (dC, dI) vwCl (fl [(w_X11 ad (b1) cs S1)]) H66 := hP'
            replace hD : va_D A (fl [(w_X11 ad (b1) cs S1)]) := hD'
            clear hP' hD' hS'
            replace hR := Option.some.inj hR
            have e9 := hR
            exact W.iret hx hb hr (fun t ht hW => ⟨⟨_, (), rfl, e9, by rw [ht]; exact hP, va_K.moved hW.alike hK, hD⟩, hS.F ht⟩) hS.2.2 dX11_stationOf_69
          · replace hR := it_f hR c21_2
            by_cases c21_3 : p2 = 3
            · replace hR := it_t hR c21_3
              refine lv_tableIn (off := 49) (tgt := 70) hx hb dX11_stationOf_21 (by rw [c21_3]; decide) (by rw [c21_3]; decide) (by rw [c21_3]; rfl) (by decide) ?_
              refine lv_aload_n hx hb dX11_stationOf_70 rfl (lv_at hl 0 rfl) ?_
              refine lv_iload_n hx hb dX11_stationOf_71 rfl (lv_at hl 1 rfl) ?_
              replace hR := bd_e hR
              obtain ⟨q72, gq72, hR⟩ := hR
              refine cl_Vi (As := [.int p1]) (rest := []) (L := [(w_X11 ad (b1) cs S1)]) (L' := [(w_X11 ad (b1) cs S1)]) (Wc := [(w_X11 ad (b1) cs S1)]) (Wc' := [(w_X11 ad (b1) cs S1)]) (is := [0]) (js := []) ⟨hx, hb, hml, hown, hts⟩ (k_X11_unevenNow l dC dI cs ad (b1) H12.size S1 p1 q72 gq72) (cwV 1 hts gX11_stationOf_X11_unevenNow rfl rfl rfl cd_X11_unevenNow ⟨Nat.le_of_ble_eq_true rfl, Nat.le_of_ble_eq_true rfl⟩) hK hP hD hS hA ⟨rfl, rfl, rfl, rfl, rfl, rfl⟩ (jn_nd (is := [0]) hD rfl rfl) 0 9 rfl rfl rfl rfl rfl hl.1 (Nat.le_of_ble_eq_true rfl) dX11_stationOf_72 (fun H72 locs72 hP' hD' hS' => ?_)
              replace hS := hS'
              replace hP : va_P (dC, dI) vwCl (fl [(w_X11 ad (b1) cs S1)]) H72 := hP'
              replace hD : va_D A (fl [(w_X11 ad (b1) cs S1)]) := hD'
              clear hP' hD' hS'
              replace hR := Option.some.inj hR
              have e9 := hR
              exact W.iret hx hb hr (fun t ht hW => ⟨⟨_, (), rfl, e9, by rw [ht]; exact hP, va_K.moved hW.alike hK, hD⟩, hS.F ht⟩) hS.2.2 dX11_stationOf_75
            · replace hR := it_f hR c21_3
              by_cases c21_4 : p2 = 4
              · replace hR := it_t hR c21_4
                refine lv_tableIn (off := 55) (tgt := 76) hx hb dX11_stationOf_21 (by rw [c21_4]; decide) (by rw [c21_4]; decide) (by rw [c21_4]; rfl) (by decide) ?_
                refine lv_aload_n hx hb dX11_stationOf_76 rfl (lv_at hl 0 rfl) ?_
                refine lv_iload_n hx hb dX11_stationOf_77 rfl (lv_at hl 1 rfl) ?_
                replace hR := bd_e hR
                obtain ⟨q78, gq78, hR⟩ := hR
                refine cl_Vi (As := [.int p1]) (rest := []) (L := [(w_X11 ad (b1) cs S1)]) (L' := [(w_X11 ad (b1) cs S1)]) (Wc := [(w_X11 ad (b1) cs S1)]) (Wc' := [(w_X11 ad (b1) cs S1)]) (is := [0]) (js := []) ⟨hx, hb, hml, hown, hts⟩ (k_X11_aim l dC dI cs ad (b1) H12.size S1 p1 q78 gq78) (cwV 1 hts gX11_stationOf_X11_aim rfl rfl rfl cd_X11_aim ⟨Nat.le_of_ble_eq_true rfl, Nat.le_of_ble_eq_true rfl⟩) hK hP hD hS hA ⟨rfl, rfl, rfl, rfl, rfl, rfl⟩ (jn_nd (is := [0]) hD rfl rfl) 0 9 rfl rfl rfl rfl rfl hl.1 (Nat.le_of_ble_eq_true rfl) dX11_stationOf_78 (fun H78 locs78 hP' hD' hS' => ?_)
                replace hS := hS'
                replace hP : va_P (dC, dI) vwCl (fl [(w_X11 ad (b1) cs S1)]) H78 := hP'
                replace hD : va_D A (fl [(w_X11 ad (b1) cs S1)]) := hD'
                clear hP' hD' hS'
                replace hR := Option.some.inj hR
                have e9 := hR
                exact W.iret hx hb hr (fun t ht hW => ⟨⟨_, (), rfl, e9, by rw [ht]; exact hP, va_K.moved hW.alike hK, hD⟩, hS.F ht⟩) hS.2.2 dX11_stationOf_81
              · replace hR := it_f hR c21_4
                refine lv_tableOut (tgt := 82) hx hb dX11_stationOf_21 (by have n0 := lv_neT (a := 0) c21_0 rfl; have n1 := lv_neT (a := 1) c21_1 rfl; have n2 := lv_neT (a := 2) c21_2 rfl; have n3 := lv_neT (a := 3) c21_3 rfl; have n4 := lv_neT (a := 4) c21_4 rfl; omega) (by decide) ?_
                refine lv_aload_n hx hb dX11_stationOf_82 rfl (lv_at hl 0 rfl) ?_
                refine lv_iload_n hx hb dX11_stationOf_83 rfl (lv_at hl 1 rfl) ?_
                refine lv_iload_n hx hb dX11_stationOf_84 rfl (lv_at hl 2 rfl) ?_
                refine lv_iconst (v := 3) hx hb dX11_stationOf_85 ic_3 ?_
                refine lv_isub hx hb dX11_stationOf_86 ?_
                replace hR := bd_e hR
                obtain ⟨q87, gq87, hR⟩ := hR
                refine cl_Vi (As := [.int p1, .int (p2 - 3)]) (rest := []) (L := [(w_X11 ad (b1) cs S1)]) (L' := [(w_X11 ad (b1) cs S1)]) (Wc := [(w_X11 ad (b1) cs S1)]) (Wc' := [(w_X11 ad (b1) cs S1)]) (is := [0]) (js := []) ⟨hx, hb, hml, hown, hts⟩ (k_X11_ofStation l dC dI cs ad (b1) H12.size S1 p1 (p2 - 3) q87 gq87) (cwV 2 hts gX11_stationOf_X11_ofStation rfl rfl rfl cd_X11_ofStation ⟨Nat.le_of_ble_eq_true rfl, Nat.le_of_ble_eq_true rfl⟩) hK hP hD hS hA ⟨rfl, rfl, rfl, rfl, rfl, rfl⟩ (jn_nd (is := [0]) hD rfl rfl) 0 9 rfl rfl rfl rfl rfl hl.1 (Nat.le_of_ble_eq_true rfl) dX11_stationOf_87 (fun H87 locs87 hP' hD' hS' => ?_)
                replace hS := hS'
                replace hP : va_P (dC, dI) vwCl (fl [(w_X11 ad (b1) cs S1)]) H87 := hP'
                replace hD : va_D A (fl [(w_X11 ad (b1) cs S1)]) := hD'
                clear hP' hD' hS'
                replace hR := Option.some.inj hR
                have e9 := hR
                exact W.iret hx hb hr (fun t ht hW => ⟨⟨_, (), rfl, e9, by rw [ht]; exact hP, va_K.moved hW.alike hK, hD⟩, hS.F ht⟩) hS.2.2 dX11_stationOf_90
    · replace hR := it_t hR c15
      refine lv_iconst (v := (-1)) hx hb dX11_stationOf_18 ic_m1 ?_
      replace hR := Option.some.inj hR
      have e9 := hR
      exact W.iret hx hb hr (fun t ht hW => ⟨⟨_, (), rfl, e9, by rw [ht]; exact hP, va_K.moved hW.alike hK, hD⟩, hS.F ht⟩) hS.2.2 dX11_stationOf_19
set_option maxHeartbeats 8000000 in
set_option maxRecDepth 100000 in
theorem k_X11_bicycleOf (l : Launch) (dC : Nat → ClassId) (dI : Nat → Nat → Nat) (cs : Nat → ClassId) (ad : Nat → Nat) (b1 : Nat) (sz : Nat) (S1 : T2) (p1 : Int32) (p2 : Int32) (r : Int32) (hR : fX11_bicycleOf S1 p1 p2 = some r) : Met l yX11_bicycleOf wsX11_bicycleOf ({ frames := 1, cells := 0, slots := 0, locals := 22 } : Room) (va_Pc [.ref (ad b1), .int p1, .int p2] (pW dC dI (tyL cs) (fl [(w_X11 ad (b1) cs S1)]) sz)) (QI dC dI (tyL cs) (va_A (fl [(w_X11 ad (b1) cs S1)]) sz) (fl [(w_X11 ad (b1) cs S1)]) r) 0 0 (va_A (fl [(w_X11 ad (b1) cs S1)]) sz) := by
  refine mt_of (own := RX11) (cc := cX11_bicycleOf) (maxL := 3) (ret := (some .int)) (Qc := fun A => QI dC dI (tyL cs) A (fl [(w_X11 ad (b1) cs S1)]) r) rfl (by decide) rfl (Nat.le_of_ble_eq_true rfl) (fun p e s m below meth c A ls hsz hx hb hr hts hown hlocks hml hA hK hP hD hS hl => ?_)
  subst hsz
  have hl : lv_has ls 3 [(0, .ref (ad b1)), (1, .int p1), (2, .int p2)] := hl
  refine lv_aload_n hx hb dX11_bicycleOf_0 rfl (lv_at hl 0 rfl) ?_
  refine lv_iload_n hx hb dX11_bicycleOf_1 rfl (lv_at hl 1 rfl) ?_
  replace hR := bd_e hR
  obtain ⟨q2, gq2, hR⟩ := hR
  refine cl_Vi (As := [.int p1]) (rest := []) (L := [(w_X11 ad (b1) cs S1)]) (L' := [(w_X11 ad (b1) cs S1)]) (Wc := [(w_X11 ad (b1) cs S1)]) (Wc' := [(w_X11 ad (b1) cs S1)]) (is := [0]) (js := []) ⟨hx, hb, hml, hown, hts⟩ (k_X11_isBicycle l dC dI cs ad (b1) s.heap.size S1 p1 q2 gq2) (cwV 1 hts gX11_bicycleOf_X11_isBicycle rfl rfl rfl cd_X11_isBicycle ⟨Nat.le_of_ble_eq_true rfl, Nat.le_of_ble_eq_true rfl⟩) hK hP hD hS hA ⟨rfl, rfl, rfl, rfl, rfl, rfl⟩ (jn_nd (is := [0]) hD rfl rfl) 0 9 rfl rfl rfl rfl rfl hl.1 (Nat.le_of_ble_eq_true rfl) dX11_bicycleOf_2 (fun H2 locs2 hP' hD' hS' => ?_)
  replace hS := hS'
  replace hP : va_P (dC, dI) vwCl (fl [(w_X11 ad (b1) cs S1)]) H2 := hP'
  replace hD : va_D A (fl [(w_X11 ad (b1) cs S1)]) := hD'
  clear hP' hD' hS'
  refine lv_if_eq (tgt := 26) hx hb dX11_bicycleOf_5 (by decide) (fun c5 => ?_) (fun c5 => ?_)
  · replace hR := it_t hR c5
    refine lv_iconst (v := (-1)) hx hb dX11_bicycleOf_26 ic_m1 ?_
    replace hR := Option.some.inj hR
    have e9 := hR
    exact W.iret hx hb hr (fun t ht hW => ⟨⟨_, (), rfl, e9, by rw [ht]; exact hP, va_K.moved hW.alike hK, hD⟩, hS.F ht⟩) hS.2.2 dX11_bicycleOf_27
  · replace hR := it_f hR c5
    refine lv_iload_n hx hb dX11_bicycleOf_8 rfl (lv_at hl 2 rfl) ?_
    refine lv_iconst (v := 0) hx hb dX11_bicycleOf_9 ic_0 ?_
    refine lv_iconst (v := 4) hx hb dX11_bicycleOf_10 ic_4 ?_
    replace hR := bd_e hR
    obtain ⟨q11, gq11, hR⟩ := hR
    refine cl_Si (As := [.int p2, .int (0 : Int32), .int (4 : Int32)]) (rest := []) (L := [(w_X11 ad (b1) cs S1)]) (L' := [(w_X11 ad (b1) cs S1)]) (Wc := []) (Wc' := []) (is := []) (js := [0]) ⟨hx, hb, hml, hown, hts⟩ (k_X11_in l dC dI cs ad H2.size p2 (0 : Int32) (4 : Int32) q11 gq11) (cwS 3 hts gX11_bicycleOf_X11_in rfl rfl rfl cd_X11_in ⟨Nat.le_of_ble_eq_true rfl, Nat.le_of_ble_eq_true rfl⟩) hK hP hD hS hA ⟨rfl, rfl, rfl, rfl, rfl, rfl⟩ (jn_nd (is := []) hD rfl rfl) rfl rfl hl.1 (Nat.le_of_ble_eq_true rfl) dX11_bicycleOf_11 (fun H11 locs11 hP' hD' hS' => ?_)
    replace hS := hS'
    replace hP : va_P (dC, dI) vwCl (fl [(w_X11 ad (b1) cs S1)]) H11 := hP'
    replace hD : va_D A (fl [(w_X11 ad (b1) cs S1)]) := hD'
    clear hP' hD' hS'
    refine lv_if_eq (tgt := 26) hx hb dX11_bicycleOf_14 (by decide) (fun c14 => ?_) (fun c14 => ?_)
    · replace hR := it_t hR c14
      refine lv_iconst (v := (-1)) hx hb dX11_bicycleOf_26 ic_m1 ?_
      replace hR := Option.some.inj hR
      have e9 := hR
      exact W.iret hx hb hr (fun t ht hW => ⟨⟨_, (), rfl, e9, by rw [ht]; exact hP, va_K.moved hW.alike hK, hD⟩, hS.F ht⟩) hS.2.2 dX11_bicycleOf_27
    · replace hR := it_f hR c14
      refine lv_aload_n hx hb dX11_bicycleOf_17 rfl (lv_at hl 0 rfl) ?_
      refine lv_iload_n hx hb dX11_bicycleOf_18 rfl (lv_at hl 1 rfl) ?_
      refine lv_iload_n hx hb dX11_bicycleOf_19 rfl (lv_at hl 2 rfl) ?_
      replace hR := bd_e hR
      obtain ⟨q20, gq20, hR⟩ := hR
      refine cl_Vi (As := [.int p1, .int p2]) (rest := []) (L := [(w_X11 ad (b1) cs S1)]) (L' := [(w_X11 ad (b1) cs S1)]) (Wc := [(w_X11 ad (b1) cs S1)]) (Wc' := [(w_X11 ad (b1) cs S1)]) (is := [0]) (js := []) ⟨hx, hb, hml, hown, hts⟩ (k_X11_ofBicycle l dC dI cs ad (b1) H11.size S1 p1 p2 q20 gq20) (cwV 2 hts gX11_bicycleOf_X11_ofBicycle rfl rfl rfl cd_X11_ofBicycle ⟨Nat.le_of_ble_eq_true rfl, Nat.le_of_ble_eq_true rfl⟩) hK hP hD hS hA ⟨rfl, rfl, rfl, rfl, rfl, rfl⟩ (jn_nd (is := [0]) hD rfl rfl) 0 9 rfl rfl rfl rfl rfl hl.1 (Nat.le_of_ble_eq_true rfl) dX11_bicycleOf_20 (fun H20 locs20 hP' hD' hS' => ?_)
      replace hS := hS'
      replace hP : va_P (dC, dI) vwCl (fl [(w_X11 ad (b1) cs S1)]) H20 := hP'
      replace hD : va_D A (fl [(w_X11 ad (b1) cs S1)]) := hD'
      clear hP' hD' hS'
      refine lv_goto (tgt := 27) hx hb dX11_bicycleOf_23 (by decide) ?_
      replace hR := Option.some.inj hR
      have e9 := hR
      exact W.iret hx hb hr (fun t ht hW => ⟨⟨_, (), rfl, e9, by rw [ht]; exact hP, va_K.moved hW.alike hK, hD⟩, hS.F ht⟩) hS.2.2 dX11_bicycleOf_27
set_option maxHeartbeats 8000000 in
set_option maxRecDepth 100000 in
theorem k_X11_riderOf (l : Launch) (dC : Nat → ClassId) (dI : Nat → Nat → Nat) (cs : Nat → ClassId) (ad : Nat → Nat) (b1 : Nat) (sz : Nat) (S1 : T2) (p1 : Int32) (p2 : Int32) (r : Int32) (hR : fX11_riderOf S1 p1 p2 = some r) : Met l yX11_riderOf wsX11_riderOf ({ frames := 2, cells := 0, slots := 0, locals := 44 } : Room) (va_Pc [.ref (ad b1), .int p1, .int p2] (pW dC dI (tyL cs) (fl [(w_X11 ad (b1) cs S1)]) sz)) (QI dC dI (tyL cs) (va_A (fl [(w_X11 ad (b1) cs S1)]) sz) (fl [(w_X11 ad (b1) cs S1)]) r) 0 0 (va_A (fl [(w_X11 ad (b1) cs S1)]) sz) := by
  refine mt_of (own := RX11) (cc := cX11_riderOf) (maxL := 3) (ret := (some .int)) (Qc := fun A => QI dC dI (tyL cs) A (fl [(w_X11 ad (b1) cs S1)]) r) rfl (by decide) rfl (Nat.le_of_ble_eq_true rfl) (fun p e s m below meth c A ls hsz hx hb hr hts hown hlocks hml hA hK hP hD hS hl => ?_)
  subst hsz
  have hl : lv_has ls 3 [(0, .ref (ad b1)), (1, .int p1), (2, .int p2)] := hl
  have hF7 := hts (.fieldLink RX11 7 "DockedBikesModel" "s" "[I") (List.mem_of_getElem? (i := 1) rfl)
  have hinX11 : ∀ w ∈ wsX110, w ∈ wsX11_riderOf := by decide +kernel
  refine lv_aload_n hx hb dX11_riderOf_0 rfl (lv_at hl 0 rfl) ?_
  refine lv_iload_n hx hb dX11_riderOf_1 rfl (lv_at hl 1 rfl) ?_
  replace hR := bd_e hR
  obtain ⟨q2, gq2, hR⟩ := hR
  refine cl_Vi (As := [.int p1]) (rest := []) (L := [(w_X11 ad (b1) cs S1)]) (L' := [(w_X11 ad (b1) cs S1)]) (Wc := [(w_X11 ad (b1) cs S1)]) (Wc' := [(w_X11 ad (b1) cs S1)]) (is := [0]) (js := []) ⟨hx, hb, hml, hown, hts⟩ (k_X11_isRider l dC dI cs ad (b1) s.heap.size S1 p1 q2 gq2) (cwV 1 hts gX11_riderOf_X11_isRider rfl rfl rfl cd_X11_isRider ⟨Nat.le_of_ble_eq_true rfl, Nat.le_of_ble_eq_true rfl⟩) hK hP hD hS hA ⟨rfl, rfl, rfl, rfl, rfl, rfl⟩ (jn_nd (is := [0]) hD rfl rfl) 0 9 rfl rfl rfl rfl rfl hl.1 (Nat.le_of_ble_eq_true rfl) dX11_riderOf_2 (fun H2 locs2 hP' hD' hS' => ?_)
  replace hS := hS'
  replace hP : va_P (dC, dI) vwCl (fl [(w_X11 ad (b1) cs S1)]) H2 := hP'
  replace hD : va_D A (fl [(w_X11 ad (b1) cs S1)]) := hD'
  clear hP' hD' hS'
  refine lv_if_eq (tgt := 18) hx hb dX11_riderOf_5 (by decide) (fun c5 => ?_) (fun c5 => ?_)
  · replace hR := it_t hR c5
    refine lv_iconst (v := (-1)) hx hb dX11_riderOf_18 ic_m1 ?_
    replace hR := Option.some.inj hR
    have e9 := hR
    exact W.iret hx hb hr (fun t ht hW => ⟨⟨_, (), rfl, e9, by rw [ht]; exact hP, va_K.moved hW.alike hK, hD⟩, hS.F ht⟩) hS.2.2 dX11_riderOf_19
  · replace hR := it_f hR c5
    refine lv_iload_n hx hb dX11_riderOf_8 rfl (lv_at hl 2 rfl) ?_
    refine lv_iconst (v := 0) hx hb dX11_riderOf_9 ic_0 ?_
    refine lv_bipush (v := 7) hx hb dX11_riderOf_10 bp_7 ?_
    replace hR := bd_e hR
    obtain ⟨q12, gq12, hR⟩ := hR
    refine cl_Si (As := [.int p2, .int (0 : Int32), .int (7 : Int32)]) (rest := []) (L := [(w_X11 ad (b1) cs S1)]) (L' := [(w_X11 ad (b1) cs S1)]) (Wc := []) (Wc' := []) (is := []) (js := [0]) ⟨hx, hb, hml, hown, hts⟩ (k_X11_in l dC dI cs ad H2.size p2 (0 : Int32) (7 : Int32) q12 gq12) (cwS 3 hts gX11_riderOf_X11_in rfl rfl rfl cd_X11_in ⟨Nat.le_of_ble_eq_true rfl, Nat.le_of_ble_eq_true rfl⟩) hK hP hD hS hA ⟨rfl, rfl, rfl, rfl, rfl, rfl⟩ (jn_nd (is := []) hD rfl rfl) rfl rfl hl.1 (Nat.le_of_ble_eq_true rfl) dX11_riderOf_12 (fun H12 locs12 hP' hD' hS' => ?_)
    replace hS := hS'
    replace hP : va_P (dC, dI) vwCl (fl [(w_X11 ad (b1) cs S1)]) H12 := hP'
    replace hD : va_D A (fl [(w_X11 ad (b1) cs S1)]) := hD'
    clear hP' hD' hS'
    refine lv_if_ne (tgt := 20) hx hb dX11_riderOf_15 (by decide) (fun c15 => ?_) (fun c15 => ?_)
    · replace hR := it_f hR c15
      refine lv_iload_n hx hb dX11_riderOf_20 rfl (lv_at hl 2 rfl) ?_
      refine lv_if_ne (tgt := 31) hx hb dX11_riderOf_21 (by decide) (fun c21 => ?_) (fun c21 => ?_)
      · replace hR := it_f hR c21
        refine lv_iload_n hx hb dX11_riderOf_31 rfl (lv_at hl 2 rfl) ?_
        refine lv_iconst (v := 1) hx hb dX11_riderOf_32 ic_1 ?_
        refine lv_icmp_ne (tgt := 62) hx hb dX11_riderOf_33 (by decide) (fun c33 => ?_) (fun c33 => ?_)
        · replace hR := it_f hR c33
          refine lv_iload_n hx hb dX11_riderOf_62 rfl (lv_at hl 2 rfl) ?_
          refine lv_iconst (v := 5) hx hb dX11_riderOf_63 ic_5 ?_
          refine lv_icmp_le (tgt := 76) hx hb dX11_riderOf_64 (by decide) (fun c64 => ?_) (fun c64 => ?_)
          · replace hR := it_t hR c64
            refine lv_aload_n hx hb dX11_riderOf_76 rfl (lv_at hl 0 rfl) ?_
            refine lv_iload_n hx hb dX11_riderOf_77 rfl (lv_at hl 1 rfl) ?_
            replace hR := bd_e hR
            obtain ⟨q78, gq78, hR⟩ := hR
            refine cl_Vi (As := [.int p1]) (rest := []) (L := [(w_X11 ad (b1) cs S1)]) (L' := [(w_X11 ad (b1) cs S1)]) (Wc := [(w_X11 ad (b1) cs S1)]) (Wc' := [(w_X11 ad (b1) cs S1)]) (is := [0]) (js := []) ⟨hx, hb, hml, hown, hts⟩ (k_X11_rides l dC dI cs ad (b1) H12.size S1 p1 q78 gq78) (cwV 1 hts gX11_riderOf_X11_rides rfl rfl rfl cd_X11_rides ⟨Nat.le_of_ble_eq_true rfl, Nat.le_of_ble_eq_true rfl⟩) hK hP hD hS hA ⟨rfl, rfl, rfl, rfl, rfl, rfl⟩ (jn_nd (is := [0]) hD rfl rfl) 0 9 rfl rfl rfl rfl rfl hl.1 (Nat.le_of_ble_eq_true rfl) dX11_riderOf_78 (fun H78 locs78 hP' hD' hS' => ?_)
            replace hS := hS'
            replace hP : va_P (dC, dI) vwCl (fl [(w_X11 ad (b1) cs S1)]) H78 := hP'
            replace hD : va_D A (fl [(w_X11 ad (b1) cs S1)]) := hD'
            clear hP' hD' hS'
            refine lv_if_ne (tgt := 87) hx hb dX11_riderOf_81 (by decide) (fun c81 => ?_) (fun c81 => ?_)
            · replace hR := it_f hR c81
              refine lv_iload_n hx hb dX11_riderOf_87 rfl (lv_at hl 2 rfl) ?_
              refine lv_iconst (v := 2) hx hb dX11_riderOf_88 ic_2 ?_
              refine lv_icmp_ne (tgt := 101) hx hb dX11_riderOf_89 (by decide) (fun c89 => ?_) (fun c89 => ?_)
              · replace hR := it_f hR c89
                refine lv_iload_n hx hb dX11_riderOf_101 rfl (lv_at hl 2 rfl) ?_
                refine lv_iconst (v := 3) hx hb dX11_riderOf_102 ic_3 ?_
                refine lv_icmp_ne (tgt := 122) hx hb dX11_riderOf_103 (by decide) (fun c103 => ?_) (fun c103 => ?_)
                · replace hR := it_f hR c103
                  refine lv_iload_n hx hb dX11_riderOf_122 rfl (lv_at hl 2 rfl) ?_
                  refine lv_iconst (v := 4) hx hb dX11_riderOf_123 ic_4 ?_
                  refine lv_icmp_ne (tgt := 136) hx hb dX11_riderOf_124 (by decide) (fun c124 => ?_) (fun c124 => ?_)
                  · replace hR := it_f hR c124
                    refine lv_aload_n hx hb dX11_riderOf_136 rfl (lv_at hl 0 rfl) ?_
                    refine lv_iload_n hx hb dX11_riderOf_137 rfl (lv_at hl 1 rfl) ?_
                    replace hR := bd_e hR
                    obtain ⟨q138, gq138, hR⟩ := hR
                    refine cl_Vi (As := [.int p1]) (rest := []) (L := [(w_X11 ad (b1) cs S1)]) (L' := [(w_X11 ad (b1) cs S1)]) (Wc := [(w_X11 ad (b1) cs S1)]) (Wc' := [(w_X11 ad (b1) cs S1)]) (is := [0]) (js := []) ⟨hx, hb, hml, hown, hts⟩ (k_X11_fee l dC dI cs ad (b1) H78.size S1 p1 q138 gq138) (cwV 1 hts gX11_riderOf_X11_fee rfl rfl rfl cd_X11_fee ⟨Nat.le_of_ble_eq_true rfl, Nat.le_of_ble_eq_true rfl⟩) hK hP hD hS hA ⟨rfl, rfl, rfl, rfl, rfl, rfl⟩ (jn_nd (is := [0]) hD rfl rfl) 0 9 rfl rfl rfl rfl rfl hl.1 (Nat.le_of_ble_eq_true rfl) dX11_riderOf_138 (fun H138 locs138 hP' hD' hS' => ?_)
                    replace hS := hS'
                    replace hP : va_P (dC, dI) vwCl (fl [(w_X11 ad (b1) cs S1)]) H138 := hP'
                    replace hD : va_D A (fl [(w_X11 ad (b1) cs S1)]) := hD'
                    clear hP' hD' hS'
                    replace hR := Option.some.inj hR
                    have e9 := hR
                    exact W.iret hx hb hr (fun t ht hW => ⟨⟨_, (), rfl, e9, by rw [ht]; exact hP, va_K.moved hW.alike hK, hD⟩, hS.F ht⟩) hS.2.2 dX11_riderOf_141
                  · replace hR := it_t hR c124
                    refine lv_aload_n hx hb dX11_riderOf_127 rfl (lv_at hl 0 rfl) ?_
                    refine lv_iload_n hx hb dX11_riderOf_128 rfl (lv_at hl 1 rfl) ?_
                    refine lv_iconst (v := 4) hx hb dX11_riderOf_129 ic_4 ?_
                    replace hR := bd_e hR
                    obtain ⟨q130, gq130, hR⟩ := hR
                    refine cl_Vi (As := [.int p1, .int (4 : Int32)]) (rest := []) (L := [(w_X11 ad (b1) cs S1)]) (L' := [(w_X11 ad (b1) cs S1)]) (Wc := [(w_X11 ad (b1) cs S1)]) (Wc' := [(w_X11 ad (b1) cs S1)]) (is := [0]) (js := []) ⟨hx, hb, hml, hown, hts⟩ (k_X11_ofRider l dC dI cs ad (b1) H78.size S1 p1 (4 : Int32) q130 gq130) (cwV 2 hts gX11_riderOf_X11_ofRider rfl rfl rfl cd_X11_ofRider ⟨Nat.le_of_ble_eq_true rfl, Nat.le_of_ble_eq_true rfl⟩) hK hP hD hS hA ⟨rfl, rfl, rfl, rfl, rfl, rfl⟩ (jn_nd (is := [0]) hD rfl rfl) 0 9 rfl rfl rfl rfl rfl hl.1 (Nat.le_of_ble_eq_true rfl) dX11_riderOf_130 (fun H130 locs130 hP' hD' hS' => ?_)
                    replace hS := hS'
                    replace hP : va_P (dC, dI) vwCl (fl [(w_X11 ad (b1) cs S1)]) H130 := hP'
                    replace hD : va_D A (fl [(w_X11 ad (b1) cs S1)]) := hD'
                    clear hP' hD' hS'
                    refine lv_goto (tgt := 141) hx hb dX11_riderOf_133 (by decide) ?_
                    replace hR := Option.some.inj hR
                    have e9 := hR
                    exact W.iret hx hb hr (fun t ht hW => ⟨⟨_, (), rfl, e9, by rw [ht]; exact hP, va_K.moved hW.alike hK, hD⟩, hS.F ht⟩) hS.2.2 dX11_riderOf_141
                · replace hR := it_t hR c103
                  refine lv_aload_n hx hb dX11_riderOf_106 rfl (lv_at hl 0 rfl) ?_
                  refine va_get (D := (dC, dI)) (ci := 9) (v := .ref (ad (b1 + 1))) (C := RX11) (T := TX11) (N := 14) hx hb hts hinX11 hown hK hP 0 rfl rfl 0 (by decide) hF7 (fun _ h9 => h9) rfl dX11_riderOf_107 ?_
                  refine lv_iconst (v := 4) hx hb dX11_riderOf_110 ic_4 ?_
                  refine va_iald hx hb hK hP 1 0 rfl rfl vi_4_206 dX11_riderOf_111 ?_
                  refine lv_aload_n hx hb dX11_riderOf_112 rfl (lv_at hl 0 rfl) ?_
                  refine lv_iload_n hx hb dX11_riderOf_113 rfl (lv_at hl 1 rfl) ?_
                  refine lv_iconst (v := 3) hx hb dX11_riderOf_114 ic_3 ?_
                  replace hR := bd_e hR
                  obtain ⟨q115, gq115, hR⟩ := hR
                  refine cl_Vi (As := [.int p1, .int (3 : Int32)]) (rest := [.int (S1 0 (4 : Int32).toNatClampNeg)]) (L := [(w_X11 ad (b1) cs S1)]) (L' := [(w_X11 ad (b1) cs S1)]) (Wc := [(w_X11 ad (b1) cs S1)]) (Wc' := [(w_X11 ad (b1) cs S1)]) (is := [0]) (js := []) ⟨hx, hb, hml, hown, hts⟩ (k_X11_ofRider l dC dI cs ad (b1) H78.size S1 p1 (3 : Int32) q115 gq115) (cwV 2 hts gX11_riderOf_X11_ofRider rfl rfl rfl cd_X11_ofRider ⟨Nat.le_of_ble_eq_true rfl, Nat.le_of_ble_eq_true rfl⟩) hK hP hD hS hA ⟨rfl, rfl, rfl, rfl, rfl, rfl⟩ (jn_nd (is := [0]) hD rfl rfl) 0 9 rfl rfl rfl rfl rfl hl.1 (Nat.le_of_ble_eq_true rfl) dX11_riderOf_115 (fun H115 locs115 hP' hD' hS' => ?_)
                  replace hS := hS'
                  replace hP : va_P (dC, dI) vwCl (fl [(w_X11 ad (b1) cs S1)]) H115 := hP'
                  replace hD : va_D A (fl [(w_X11 ad (b1) cs S1)]) := hD'
                  clear hP' hD' hS'
                  refine lv_isub hx hb dX11_riderOf_118 ?_
                  refine lv_goto (tgt := 141) hx hb dX11_riderOf_119 (by decide) ?_
                  replace hR := Option.some.inj hR
                  have e9 := hR
                  exact W.iret hx hb hr (fun t ht hW => ⟨⟨_, (), rfl, e9, by rw [ht]; exact hP, va_K.moved hW.alike hK, hD⟩, hS.F ht⟩) hS.2.2 dX11_riderOf_141
              · replace hR := it_t hR c89
                refine lv_aload_n hx hb dX11_riderOf_92 rfl (lv_at hl 0 rfl) ?_
                refine lv_iload_n hx hb dX11_riderOf_93 rfl (lv_at hl 1 rfl) ?_
                refine lv_iconst (v := 2) hx hb dX11_riderOf_94 ic_2 ?_
                replace hR := bd_e hR
                obtain ⟨q95, gq95, hR⟩ := hR
                refine cl_Vi (As := [.int p1, .int (2 : Int32)]) (rest := []) (L := [(w_X11 ad (b1) cs S1)]) (L' := [(w_X11 ad (b1) cs S1)]) (Wc := [(w_X11 ad (b1) cs S1)]) (Wc' := [(w_X11 ad (b1) cs S1)]) (is := [0]) (js := []) ⟨hx, hb, hml, hown, hts⟩ (k_X11_ofRider l dC dI cs ad (b1) H78.size S1 p1 (2 : Int32) q95 gq95) (cwV 2 hts gX11_riderOf_X11_ofRider rfl rfl rfl cd_X11_ofRider ⟨Nat.le_of_ble_eq_true rfl, Nat.le_of_ble_eq_true rfl⟩) hK hP hD hS hA ⟨rfl, rfl, rfl, rfl, rfl, rfl⟩ (jn_nd (is := [0]) hD rfl rfl) 0 9 rfl rfl rfl rfl rfl hl.1 (Nat.le_of_ble_eq_true rfl) dX11_riderOf_95 (fun H95 locs95 hP' hD' hS' => ?_)
                replace hS := hS'
                replace hP : va_P (dC, dI) vwCl (fl [(w_X11 ad (b1) cs S1)]) H95 := hP'
                replace hD : va_D A (fl [(w_X11 ad (b1) cs S1)]) := hD'
                clear hP' hD' hS'
                refine lv_goto (tgt := 141) hx hb dX11_riderOf_98 (by decide) ?_
                replace hR := Option.some.inj hR
                have e9 := hR
                exact W.iret hx hb hr (fun t ht hW => ⟨⟨_, (), rfl, e9, by rw [ht]; exact hP, va_K.moved hW.alike hK, hD⟩, hS.F ht⟩) hS.2.2 dX11_riderOf_141
            · replace hR := it_t hR c81
              refine lv_bipush (v := (-4)) hx hb dX11_riderOf_84 bp_m4 ?_
              replace hR := Option.some.inj hR
              have e9 := hR
              exact W.iret hx hb hr (fun t ht hW => ⟨⟨_, (), rfl, e9, by rw [ht]; exact hP, va_K.moved hW.alike hK, hD⟩, hS.F ht⟩) hS.2.2 dX11_riderOf_86
          · replace hR := it_f hR c64
            refine lv_aload_n hx hb dX11_riderOf_67 rfl (lv_at hl 0 rfl) ?_
            refine lv_iload_n hx hb dX11_riderOf_68 rfl (lv_at hl 1 rfl) ?_
            refine lv_iload_n hx hb dX11_riderOf_69 rfl (lv_at hl 2 rfl) ?_
            refine lv_iconst (v := 1) hx hb dX11_riderOf_70 ic_1 ?_
            refine lv_iadd hx hb dX11_riderOf_71 ?_
            replace hR := bd_e hR
            obtain ⟨q72, gq72, hR⟩ := hR
            refine cl_Vi (As := [.int p1, .int (p2 + 1)]) (rest := []) (L := [(w_X11 ad (b1) cs S1)]) (L' := [(w_X11 ad (b1) cs S1)]) (Wc := [(w_X11 ad (b1) cs S1)]) (Wc' := [(w_X11 ad (b1) cs S1)]) (is := [0]) (js := []) ⟨hx, hb, hml, hown, hts⟩ (k_X11_ofRider l dC dI cs ad (b1) H12.size S1 p1 (p2 + 1) q72 gq72) (cwV 2 hts gX11_riderOf_X11_ofRider rfl rfl rfl cd_X11_ofRider ⟨Nat.le_of_ble_eq_true rfl, Nat.le_of_ble_eq_true rfl⟩) hK hP hD hS hA ⟨rfl, rfl, rfl, rfl, rfl, rfl⟩ (jn_nd (is := [0]) hD rfl rfl) 0 9 rfl rfl rfl rfl rfl hl.1 (Nat.le_of_ble_eq_true rfl) dX11_riderOf_72 (fun H72 locs72 hP' hD' hS' => ?_)
            replace hS := hS'
            replace hP : va_P (dC, dI) vwCl (fl [(w_X11 ad (b1) cs S1)]) H72 := hP'
            replace hD : va_D A (fl [(w_X11 ad (b1) cs S1)]) := hD'
            clear hP' hD' hS'
            replace hR := Option.some.inj hR
            have e9 := hR
            exact W.iret hx hb hr (fun t ht hW => ⟨⟨_, (), rfl, e9, by rw [ht]; exact hP, va_K.moved hW.alike hK, hD⟩, hS.F ht⟩) hS.2.2 dX11_riderOf_75
        · replace hR := it_t hR c33
          refine lv_aload_n hx hb dX11_riderOf_36 rfl (lv_at hl 0 rfl) ?_
          refine lv_iload_n hx hb dX11_riderOf_37 rfl (lv_at hl 1 rfl) ?_
          replace hR := bd_e hR
          obtain ⟨q38, gq38, hR⟩ := hR
          refine cl_Vi (As := [.int p1]) (rest := []) (L := [(w_X11 ad (b1) cs S1)]) (L' := [(w_X11 ad (b1) cs S1)]) (Wc := [(w_X11 ad (b1) cs S1)]) (Wc' := [(w_X11 ad (b1) cs S1)]) (is := [0]) (js := []) ⟨hx, hb, hml, hown, hts⟩ (k_X11_hasPass l dC dI cs ad (b1) H12.size S1 p1 q38 gq38) (cwV 1 hts gX11_riderOf_X11_hasPass rfl rfl rfl cd_X11_hasPass ⟨Nat.le_of_ble_eq_true rfl, Nat.le_of_ble_eq_true rfl⟩) hK hP hD hS hA ⟨rfl, rfl, rfl, rfl, rfl, rfl⟩ (jn_nd (is := [0]) hD rfl rfl) 0 9 rfl rfl rfl rfl rfl hl.1 (Nat.le_of_ble_eq_true rfl) dX11_riderOf_38 (fun H38 locs38 hP' hD' hS' => ?_)
          replace hS := hS'
          replace hP : va_P (dC, dI) vwCl (fl [(w_X11 ad (b1) cs S1)]) H38 := hP'
          replace hD : va_D A (fl [(w_X11 ad (b1) cs S1)]) := hD'
          clear hP' hD' hS'
          refine lv_if_eq (tgt := 60) hx hb dX11_riderOf_41 (by decide) (fun c41 => ?_) (fun c41 => ?_)
          · replace hR := it_t hR c41
            refine lv_iconst (v := 0) hx hb dX11_riderOf_60 ic_0 ?_
            replace hR := Option.some.inj hR
            have e9 := hR
            exact W.iret hx hb hr (fun t ht hW => ⟨⟨_, (), rfl, e9, by rw [ht]; exact hP, va_K.moved hW.alike hK, hD⟩, hS.F ht⟩) hS.2.2 dX11_riderOf_61
          · replace hR := it_f hR c41
            refine lv_aload_n hx hb dX11_riderOf_44 rfl (lv_at hl 0 rfl) ?_
            refine lv_iload_n hx hb dX11_riderOf_45 rfl (lv_at hl 1 rfl) ?_
            refine lv_iconst (v := 1) hx hb dX11_riderOf_46 ic_1 ?_
            replace hR := bd_e hR
            obtain ⟨q47, gq47, hR⟩ := hR
            refine cl_Vi (As := [.int p1, .int (1 : Int32)]) (rest := []) (L := [(w_X11 ad (b1) cs S1)]) (L' := [(w_X11 ad (b1) cs S1)]) (Wc := [(w_X11 ad (b1) cs S1)]) (Wc' := [(w_X11 ad (b1) cs S1)]) (is := [0]) (js := []) ⟨hx, hb, hml, hown, hts⟩ (k_X11_ofRider l dC dI cs ad (b1) H38.size S1 p1 (1 : Int32) q47 gq47) (cwV 2 hts gX11_riderOf_X11_ofRider rfl rfl rfl cd_X11_ofRider ⟨Nat.le_of_ble_eq_true rfl, Nat.le_of_ble_eq_true rfl⟩) hK hP hD hS hA ⟨rfl, rfl, rfl, rfl, rfl, rfl⟩ (jn_nd (is := [0]) hD rfl rfl) 0 9 rfl rfl rfl rfl rfl hl.1 (Nat.le_of_ble_eq_true rfl) dX11_riderOf_47 (fun H47 locs47 hP' hD' hS' => ?_)
            replace hS := hS'
            replace hP : va_P (dC, dI) vwCl (fl [(w_X11 ad (b1) cs S1)]) H47 := hP'
            replace hD : va_D A (fl [(w_X11 ad (b1) cs S1)]) := hD'
            clear hP' hD' hS'
            refine lv_aload_n hx hb dX11_riderOf_50 rfl (lv_at hl 0 rfl) ?_
            refine va_get (D := (dC, dI)) (ci := 9) (v := .ref (ad (b1 + 1))) (C := RX11) (T := TX11) (N := 14) hx hb hts hinX11 hown hK hP 0 rfl rfl 0 (by decide) hF7 (fun _ h9 => h9) rfl dX11_riderOf_51 ?_
            refine lv_iconst (v := 4) hx hb dX11_riderOf_54 ic_4 ?_
            refine va_iald hx hb hK hP 1 0 rfl rfl vi_4_206 dX11_riderOf_55 ?_
            refine lv_isub hx hb dX11_riderOf_56 ?_
            refine lv_goto (tgt := 61) hx hb dX11_riderOf_57 (by decide) ?_
            replace hR := Option.some.inj hR
            have e9 := hR
            exact W.iret hx hb hr (fun t ht hW => ⟨⟨_, (), rfl, e9, by rw [ht]; exact hP, va_K.moved hW.alike hK, hD⟩, hS.F ht⟩) hS.2.2 dX11_riderOf_61
      · replace hR := it_t hR c21
        refine lv_aload_n hx hb dX11_riderOf_24 rfl (lv_at hl 0 rfl) ?_
        refine lv_iload_n hx hb dX11_riderOf_25 rfl (lv_at hl 1 rfl) ?_
        refine lv_iconst (v := 0) hx hb dX11_riderOf_26 ic_0 ?_
        replace hR := bd_e hR
        obtain ⟨q27, gq27, hR⟩ := hR
        refine cl_Vi (As := [.int p1, .int (0 : Int32)]) (rest := []) (L := [(w_X11 ad (b1) cs S1)]) (L' := [(w_X11 ad (b1) cs S1)]) (Wc := [(w_X11 ad (b1) cs S1)]) (Wc' := [(w_X11 ad (b1) cs S1)]) (is := [0]) (js := []) ⟨hx, hb, hml, hown, hts⟩ (k_X11_ofRider l dC dI cs ad (b1) H12.size S1 p1 (0 : Int32) q27 gq27) (cwV 2 hts gX11_riderOf_X11_ofRider rfl rfl rfl cd_X11_ofRider ⟨Nat.le_of_ble_eq_true rfl, Nat.le_of_ble_eq_true rfl⟩) hK hP hD hS hA ⟨rfl, rfl, rfl, rfl, rfl, rfl⟩ (jn_nd (is := [0]) hD rfl rfl) 0 9 rfl rfl rfl rfl rfl hl.1 (Nat.le_of_ble_eq_true rfl) dX11_riderOf_27 (fun H27 locs27 hP' hD' hS' => ?_)
        replace hS := hS'
        replace hP : va_P (dC, dI) vwCl (fl [(w_X11 ad (b1) cs S1)]) H27 := hP'
        replace hD : va_D A (fl [(w_X11 ad (b1) cs S1)]) := hD'
        clear hP' hD' hS'
        replace hR := Option.some.inj hR
        have e9 := hR
        exact W.iret hx hb hr (fun t ht hW => ⟨⟨_, (), rfl, e9, by rw [ht]; exact hP, va_K.moved hW.alike hK, hD⟩, hS.F ht⟩) hS.2.2 dX11_riderOf_30
    · replace hR := it_t hR c15
      refine lv_iconst (v := (-1)) hx hb dX11_riderOf_18 ic_m1 ?_
      replace hR := Option.some.inj hR
      have e9 := hR
      exact W.iret hx hb hr (fun t ht hW => ⟨⟨_, (), rfl, e9, by rw [ht]; exact hP, va_K.moved hW.alike hK, hD⟩, hS.F ht⟩) hS.2.2 dX11_riderOf_19
set_option maxHeartbeats 8000000 in
set_option maxRecDepth 100000 in
theorem k_X11_vanOf (l : Launch) (dC : Nat → ClassId) (dI : Nat → Nat → Nat) (cs : Nat → ClassId) (ad : Nat → Nat) (b1 : Nat) (sz : Nat) (S1 : T2) (p1 : Int32) (p2 : Int32) (r : Int32) (hR : fX11_vanOf S1 p1 p2 = some r) : Met l yX11_vanOf wsX11_vanOf ({ frames := 2, cells := 0, slots := 0, locals := 46 } : Room) (va_Pc [.ref (ad b1), .int p1, .int p2] (pW dC dI (tyL cs) (fl [(w_X11 ad (b1) cs S1)]) sz)) (QI dC dI (tyL cs) (va_A (fl [(w_X11 ad (b1) cs S1)]) sz) (fl [(w_X11 ad (b1) cs S1)]) r) 0 0 (va_A (fl [(w_X11 ad (b1) cs S1)]) sz) := by
  refine mt_of (own := RX11) (cc := cX11_vanOf) (maxL := 3) (ret := (some .int)) (Qc := fun A => QI dC dI (tyL cs) A (fl [(w_X11 ad (b1) cs S1)]) r) rfl (by decide) rfl (Nat.le_of_ble_eq_true rfl) (fun p e s m below meth c A ls hsz hx hb hr hts hown hlocks hml hA hK hP hD hS hl => ?_)
  subst hsz
  have hl : lv_has ls 3 [(0, .ref (ad b1)), (1, .int p1), (2, .int p2)] := hl
  have hF7 := hts (.fieldLink RX11 7 "DockedBikesModel" "s" "[I") (List.mem_of_getElem? (i := 1) rfl)
  have hinX11 : ∀ w ∈ wsX110, w ∈ wsX11_vanOf := by decide +kernel
  refine lv_aload_n hx hb dX11_vanOf_0 rfl (lv_at hl 0 rfl) ?_
  refine lv_iload_n hx hb dX11_vanOf_1 rfl (lv_at hl 1 rfl) ?_
  replace hR := bd_e hR
  obtain ⟨q2, gq2, hR⟩ := hR
  refine cl_Vi (As := [.int p1]) (rest := []) (L := [(w_X11 ad (b1) cs S1)]) (L' := [(w_X11 ad (b1) cs S1)]) (Wc := [(w_X11 ad (b1) cs S1)]) (Wc' := [(w_X11 ad (b1) cs S1)]) (is := [0]) (js := []) ⟨hx, hb, hml, hown, hts⟩ (k_X11_isVan l dC dI cs ad (b1) s.heap.size S1 p1 q2 gq2) (cwV 1 hts gX11_vanOf_X11_isVan rfl rfl rfl cd_X11_isVan ⟨Nat.le_of_ble_eq_true rfl, Nat.le_of_ble_eq_true rfl⟩) hK hP hD hS hA ⟨rfl, rfl, rfl, rfl, rfl, rfl⟩ (jn_nd (is := [0]) hD rfl rfl) 0 9 rfl rfl rfl rfl rfl hl.1 (Nat.le_of_ble_eq_true rfl) dX11_vanOf_2 (fun H2 locs2 hP' hD' hS' => ?_)
  replace hS := hS'
  replace hP : va_P (dC, dI) vwCl (fl [(w_X11 ad (b1) cs S1)]) H2 := hP'
  replace hD : va_D A (fl [(w_X11 ad (b1) cs S1)]) := hD'
  clear hP' hD' hS'
  refine lv_if_eq (tgt := 17) hx hb dX11_vanOf_5 (by decide) (fun c5 => ?_) (fun c5 => ?_)
  · replace hR := it_t hR c5
    refine lv_iconst (v := (-1)) hx hb dX11_vanOf_17 ic_m1 ?_
    replace hR := Option.some.inj hR
    have e9 := hR
    exact W.iret hx hb hr (fun t ht hW => ⟨⟨_, (), rfl, e9, by rw [ht]; exact hP, va_K.moved hW.alike hK, hD⟩, hS.F ht⟩) hS.2.2 dX11_vanOf_18
  · replace hR := it_f hR c5
    refine lv_iload_n hx hb dX11_vanOf_8 rfl (lv_at hl 2 rfl) ?_
    refine lv_iconst (v := 0) hx hb dX11_vanOf_9 ic_0 ?_
    refine lv_iconst (v := 3) hx hb dX11_vanOf_10 ic_3 ?_
    replace hR := bd_e hR
    obtain ⟨q11, gq11, hR⟩ := hR
    refine cl_Si (As := [.int p2, .int (0 : Int32), .int (3 : Int32)]) (rest := []) (L := [(w_X11 ad (b1) cs S1)]) (L' := [(w_X11 ad (b1) cs S1)]) (Wc := []) (Wc' := []) (is := []) (js := [0]) ⟨hx, hb, hml, hown, hts⟩ (k_X11_in l dC dI cs ad H2.size p2 (0 : Int32) (3 : Int32) q11 gq11) (cwS 3 hts gX11_vanOf_X11_in rfl rfl rfl cd_X11_in ⟨Nat.le_of_ble_eq_true rfl, Nat.le_of_ble_eq_true rfl⟩) hK hP hD hS hA ⟨rfl, rfl, rfl, rfl, rfl, rfl⟩ (jn_nd (is := []) hD rfl rfl) rfl rfl hl.1 (Nat.le_of_ble_eq_true rfl) dX11_vanOf_11 (fun H11 locs11 hP' hD' hS' => ?_)
    replace hS := hS'
    replace hP : va_P (dC, dI) vwCl (fl [(w_X11 ad (b1) cs S1)]) H11 := hP'
    replace hD : va_D A (fl [(w_X11 ad (b1) cs S1)]) := hD'
    clear hP' hD' hS'
    refine lv_if_ne (tgt := 19) hx hb dX11_vanOf_14 (by decide) (fun c14 => ?_) (fun c14 => ?_)
    · replace hR := it_f hR c14
      refine lv_iload_n hx hb dX11_vanOf_19 rfl (lv_at hl 2 rfl) ?_
      refine lv_iconst (v := 2) hx hb dX11_vanOf_20 ic_2 ?_
      refine lv_icmp_ge (tgt := 33) hx hb dX11_vanOf_21 (by decide) (fun c21 => ?_) (fun c21 => ?_)
      · replace hR := it_t hR c21
        refine lv_iload_n hx hb dX11_vanOf_33 rfl (lv_at hl 2 rfl) ?_
        refine lv_iconst (v := 2) hx hb dX11_vanOf_34 ic_2 ?_
        refine lv_icmp_ne (tgt := 47) hx hb dX11_vanOf_35 (by decide) (fun c35 => ?_) (fun c35 => ?_)
        · replace hR := it_f hR c35
          refine lv_aload_n hx hb dX11_vanOf_47 rfl (lv_at hl 0 rfl) ?_
          refine lv_iload_n hx hb dX11_vanOf_48 rfl (lv_at hl 1 rfl) ?_
          replace hR := bd_e hR
          obtain ⟨q49, gq49, hR⟩ := hR
          refine cl_Vi (As := [.int p1]) (rest := []) (L := [(w_X11 ad (b1) cs S1)]) (L' := [(w_X11 ad (b1) cs S1)]) (Wc := [(w_X11 ad (b1) cs S1)]) (Wc' := [(w_X11 ad (b1) cs S1)]) (is := [0]) (js := []) ⟨hx, hb, hml, hown, hts⟩ (k_X11_isUnderWay l dC dI cs ad (b1) H11.size S1 p1 q49 gq49) (cwV 1 hts gX11_vanOf_X11_isUnderWay rfl rfl rfl cd_X11_isUnderWay ⟨Nat.le_of_ble_eq_true rfl, Nat.le_of_ble_eq_true rfl⟩) hK hP hD hS hA ⟨rfl, rfl, rfl, rfl, rfl, rfl⟩ (jn_nd (is := [0]) hD rfl rfl) 0 9 rfl rfl rfl rfl rfl hl.1 (Nat.le_of_ble_eq_true rfl) dX11_vanOf_49 (fun H49 locs49 hP' hD' hS' => ?_)
          replace hS := hS'
          replace hP : va_P (dC, dI) vwCl (fl [(w_X11 ad (b1) cs S1)]) H49 := hP'
          replace hD : va_D A (fl [(w_X11 ad (b1) cs S1)]) := hD'
          clear hP' hD' hS'
          refine lv_if_eq (tgt := 71) hx hb dX11_vanOf_52 (by decide) (fun c52 => ?_) (fun c52 => ?_)
          · replace hR := it_t hR c52
            refine lv_iconst (v := 0) hx hb dX11_vanOf_71 ic_0 ?_
            replace hR := Option.some.inj hR
            have e9 := hR
            exact W.iret hx hb hr (fun t ht hW => ⟨⟨_, (), rfl, e9, by rw [ht]; exact hP, va_K.moved hW.alike hK, hD⟩, hS.F ht⟩) hS.2.2 dX11_vanOf_72
          · replace hR := it_f hR c52
            refine lv_aload_n hx hb dX11_vanOf_55 rfl (lv_at hl 0 rfl) ?_
            refine lv_iload_n hx hb dX11_vanOf_56 rfl (lv_at hl 1 rfl) ?_
            refine lv_iconst (v := 2) hx hb dX11_vanOf_57 ic_2 ?_
            replace hR := bd_e hR
            obtain ⟨q58, gq58, hR⟩ := hR
            refine cl_Vi (As := [.int p1, .int (2 : Int32)]) (rest := []) (L := [(w_X11 ad (b1) cs S1)]) (L' := [(w_X11 ad (b1) cs S1)]) (Wc := [(w_X11 ad (b1) cs S1)]) (Wc' := [(w_X11 ad (b1) cs S1)]) (is := [0]) (js := []) ⟨hx, hb, hml, hown, hts⟩ (k_X11_ofVan l dC dI cs ad (b1) H49.size S1 p1 (2 : Int32) q58 gq58) (cwV 2 hts gX11_vanOf_X11_ofVan rfl rfl rfl cd_X11_ofVan ⟨Nat.le_of_ble_eq_true rfl, Nat.le_of_ble_eq_true rfl⟩) hK hP hD hS hA ⟨rfl, rfl, rfl, rfl, rfl, rfl⟩ (jn_nd (is := [0]) hD rfl rfl) 0 9 rfl rfl rfl rfl rfl hl.1 (Nat.le_of_ble_eq_true rfl) dX11_vanOf_58 (fun H58 locs58 hP' hD' hS' => ?_)
            replace hS := hS'
            replace hP : va_P (dC, dI) vwCl (fl [(w_X11 ad (b1) cs S1)]) H58 := hP'
            replace hD : va_D A (fl [(w_X11 ad (b1) cs S1)]) := hD'
            clear hP' hD' hS'
            refine lv_aload_n hx hb dX11_vanOf_61 rfl (lv_at hl 0 rfl) ?_
            refine va_get (D := (dC, dI)) (ci := 9) (v := .ref (ad (b1 + 1))) (C := RX11) (T := TX11) (N := 14) hx hb hts hinX11 hown hK hP 0 rfl rfl 0 (by decide) hF7 (fun _ h9 => h9) rfl dX11_vanOf_62 ?_
            refine lv_iconst (v := 4) hx hb dX11_vanOf_65 ic_4 ?_
            refine va_iald hx hb hK hP 1 0 rfl rfl vi_4_206 dX11_vanOf_66 ?_
            refine lv_isub hx hb dX11_vanOf_67 ?_
            refine lv_goto (tgt := 72) hx hb dX11_vanOf_68 (by decide) ?_
            replace hR := Option.some.inj hR
            have e9 := hR
            exact W.iret hx hb hr (fun t ht hW => ⟨⟨_, (), rfl, e9, by rw [ht]; exact hP, va_K.moved hW.alike hK, hD⟩, hS.F ht⟩) hS.2.2 dX11_vanOf_72
        · replace hR := it_t hR c35
          refine lv_aload_n hx hb dX11_vanOf_38 rfl (lv_at hl 0 rfl) ?_
          refine lv_iconst (v := 2) hx hb dX11_vanOf_39 ic_2 ?_
          refine lv_iload_n hx hb dX11_vanOf_40 rfl (lv_at hl 1 rfl) ?_
          replace hR := bd_e hR
          obtain ⟨q41, gq41, hR⟩ := hR
          refine cl_Vi (As := [.int (2 : Int32), .int p1]) (rest := []) (L := [(w_X11 ad (b1) cs S1)]) (L' := [(w_X11 ad (b1) cs S1)]) (Wc := [(w_X11 ad (b1) cs S1)]) (Wc' := [(w_X11 ad (b1) cs S1)]) (is := [0]) (js := []) ⟨hx, hb, hml, hown, hts⟩ (k_X11_those l dC dI cs ad (b1) H11.size S1 (2 : Int32) p1 q41 gq41) (cwV 2 hts gX11_vanOf_X11_those rfl rfl rfl cd_X11_those ⟨Nat.le_of_ble_eq_true rfl, Nat.le_of_ble_eq_true rfl⟩) hK hP hD hS hA ⟨rfl, rfl, rfl, rfl, rfl, rfl⟩ (jn_nd (is := [0]) hD rfl rfl) 0 9 rfl rfl rfl rfl rfl hl.1 (Nat.le_of_ble_eq_true rfl) dX11_vanOf_41 (fun H41 locs41 hP' hD' hS' => ?_)
          replace hS := hS'
          replace hP : va_P (dC, dI) vwCl (fl [(w_X11 ad (b1) cs S1)]) H41 := hP'
          replace hD : va_D A (fl [(w_X11 ad (b1) cs S1)]) := hD'
          clear hP' hD' hS'
          refine lv_goto (tgt := 72) hx hb dX11_vanOf_44 (by decide) ?_
          replace hR := Option.some.inj hR
          have e9 := hR
          exact W.iret hx hb hr (fun t ht hW => ⟨⟨_, (), rfl, e9, by rw [ht]; exact hP, va_K.moved hW.alike hK, hD⟩, hS.F ht⟩) hS.2.2 dX11_vanOf_72
      · replace hR := it_f hR c21
        refine lv_aload_n hx hb dX11_vanOf_24 rfl (lv_at hl 0 rfl) ?_
        refine lv_iload_n hx hb dX11_vanOf_25 rfl (lv_at hl 1 rfl) ?_
        refine lv_iload_n hx hb dX11_vanOf_26 rfl (lv_at hl 2 rfl) ?_
        replace hR := bd_e hR
        obtain ⟨q27, gq27, hR⟩ := hR
        refine cl_Vi (As := [.int p1, .int p2]) (rest := []) (L := [(w_X11 ad (b1) cs S1)]) (L' := [(w_X11 ad (b1) cs S1)]) (Wc := [(w_X11 ad (b1) cs S1)]) (Wc' := [(w_X11 ad (b1) cs S1)]) (is := [0]) (js := []) ⟨hx, hb, hml, hown, hts⟩ (k_X11_ofVan l dC dI cs ad (b1) H11.size S1 p1 p2 q27 gq27) (cwV 2 hts gX11_vanOf_X11_ofVan rfl rfl rfl cd_X11_ofVan ⟨Nat.le_of_ble_eq_true rfl, Nat.le_of_ble_eq_true rfl⟩) hK hP hD hS hA ⟨rfl, rfl, rfl, rfl, rfl, rfl⟩ (jn_nd (is := [0]) hD rfl rfl) 0 9 rfl rfl rfl rfl rfl hl.1 (Nat.le_of_ble_eq_true rfl) dX11_vanOf_27 (fun H27 locs27 hP' hD' hS' => ?_)
        replace hS := hS'
        replace hP : va_P (dC, dI) vwCl (fl [(w_X11 ad (b1) cs S1)]) H27 := hP'
        replace hD : va_D A (fl [(w_X11 ad (b1) cs S1)]) := hD'
        clear hP' hD' hS'
        refine lv_goto (tgt := 72) hx hb dX11_vanOf_30 (by decide) ?_
        replace hR := Option.some.inj hR
        have e9 := hR
        exact W.iret hx hb hr (fun t ht hW => ⟨⟨_, (), rfl, e9, by rw [ht]; exact hP, va_K.moved hW.alike hK, hD⟩, hS.F ht⟩) hS.2.2 dX11_vanOf_72
    · replace hR := it_t hR c14
      refine lv_iconst (v := (-1)) hx hb dX11_vanOf_17 ic_m1 ?_
      replace hR := Option.some.inj hR
      have e9 := hR
      exact W.iret hx hb hr (fun t ht hW => ⟨⟨_, (), rfl, e9, by rw [ht]; exact hP, va_K.moved hW.alike hK, hD⟩, hS.F ht⟩) hS.2.2 dX11_vanOf_18
set_option maxHeartbeats 8000000 in
set_option maxRecDepth 100000 in
theorem k_X11_owed (l : Launch) (dC : Nat → ClassId) (dI : Nat → Nat → Nat) (cs : Nat → ClassId) (ad : Nat → Nat) (b1 : Nat) (sz : Nat) (S1 : T2) (r : Int32) (hR : fX11_owed S1 = some r) : Met l yX11_owed wsX11_owed ({ frames := 1, cells := 0, slots := 0, locals := 22 } : Room) (va_Pc [.ref (ad b1)] (pW dC dI (tyL cs) (fl [(w_X11 ad (b1) cs S1)]) sz)) (QI dC dI (tyL cs) (va_A (fl [(w_X11 ad (b1) cs S1)]) sz) (fl [(w_X11 ad (b1) cs S1)]) r) 0 0 (va_A (fl [(w_X11 ad (b1) cs S1)]) sz) := by
  refine mt_of (own := RX11) (cc := cX11_owed) (maxL := 3) (ret := (some .int)) (Qc := fun A => QI dC dI (tyL cs) A (fl [(w_X11 ad (b1) cs S1)]) r) rfl (by decide) rfl (Nat.le_of_ble_eq_true rfl) (fun p e s m below meth c A ls hsz hx hb hr hts hown hlocks hml hA hK hP hD hS hl => ?_)
  subst hsz
  have hl : lv_has ls 3 [(0, .ref (ad b1))] := hl
  have hF7 := hts (.fieldLink RX11 7 "DockedBikesModel" "s" "[I") (List.mem_of_getElem? (i := 1) rfl)
  have hinX11 : ∀ w ∈ wsX110, w ∈ wsX11_owed := by decide +kernel
  have hB4 : ∀ (n4 : Nat), ∀ (v1_4 : Int32) (v2_4 : Int32) (H : Heap) (locs : List Loc) (ls : Array Slot), fX11_owed_4 S1 n4 v1_4 v2_4 = some r → va_P (dC, dI) vwCl (fl [(w_X11 ad (b1) cs S1)]) H → va_D A (fl [(w_X11 ad (b1) cs S1)]) → va_S A s.heap H locs → lv_has ls 3 [(0, .ref (ad b1)), (1, .int v1_4), (2, .int v2_4)] → W p l e (headSpec wsX11_owed ({ frames := 1, cells := 0, slots := 0, locals := 22 } : Room)).room s m ([.ref (ad b1)] : List Value).toArray below meth c H locs 0 0 (MQ below (QI dC dI (tyL cs) A (fl [(w_X11 ad (b1) cs S1)]) r) ([.ref (ad b1)] : List Value).toArray s 0 0 A) (F0 m 4 ls []) := by
    intro n4
    induction n4 with
    | zero =>
      intro v1_4 v2_4 H locs ls hR hP hD hS hl
      exact nn_e hR
    | succ n4 hI4 =>
      intro v1_4 v2_4 H locs ls hR hP hD hS hl
      rw [fX11_owed_4] at hR
      refine lv_iload_n hx hb dX11_owed_4 rfl (lv_at hl 2 rfl) ?_
      refine lv_aload_n hx hb dX11_owed_5 rfl (lv_at hl 0 rfl) ?_
      refine va_get (D := (dC, dI)) (ci := 9) (v := .ref (ad (b1 + 1))) (C := RX11) (T := TX11) (N := 14) hx hb hts hinX11 hown hK hP 0 rfl rfl 0 (by decide) hF7 (fun _ h9 => h9) rfl dX11_owed_6 ?_
      refine lv_iconst (v := 2) hx hb dX11_owed_9 ic_2 ?_
      refine va_iald hx hb hK hP 1 0 rfl rfl vi_2_206 dX11_owed_10 ?_
      refine lv_icmp_ge (tgt := 29) hx hb dX11_owed_11 (by decide) (fun c11 => ?_) (fun c11 => ?_)
      · replace hR := it_t hR c11
        refine lv_iload_n hx hb dX11_owed_29 rfl (lv_at hl 1 rfl) ?_
        replace hR := Option.some.inj hR
        have e9 := hR
        exact W.iret hx hb hr (fun t ht hW => ⟨⟨_, (), rfl, e9, by rw [ht]; exact hP, va_K.moved hW.alike hK, hD⟩, hS.F ht⟩) hS.2.2 dX11_owed_30
      · replace hR := it_f hR c11
        refine lv_iload_n hx hb dX11_owed_14 rfl (lv_at hl 1 rfl) ?_
        refine lv_aload_n hx hb dX11_owed_15 rfl (lv_at hl 0 rfl) ?_
        refine lv_iload_n hx hb dX11_owed_16 rfl (lv_at hl 2 rfl) ?_
        refine lv_iconst (v := 0) hx hb dX11_owed_17 ic_0 ?_
        replace hR := bd_e hR
        obtain ⟨q18, gq18, hR⟩ := hR
        refine cl_Vi (As := [.int v2_4, .int (0 : Int32)]) (rest := [.int v1_4]) (L := [(w_X11 ad (b1) cs S1)]) (L' := [(w_X11 ad (b1) cs S1)]) (Wc := [(w_X11 ad (b1) cs S1)]) (Wc' := [(w_X11 ad (b1) cs S1)]) (is := [0]) (js := []) ⟨hx, hb, hml, hown, hts⟩ (k_X11_ofRider l dC dI cs ad (b1) H.size S1 v2_4 (0 : Int32) q18 gq18) (cwV 2 hts gX11_owed_X11_ofRider rfl rfl rfl cd_X11_ofRider ⟨Nat.le_of_ble_eq_true rfl, Nat.le_of_ble_eq_true rfl⟩) hK hP hD hS hA ⟨rfl, rfl, rfl, rfl, rfl, rfl⟩ (jn_nd (is := [0]) hD rfl rfl) 0 9 rfl rfl rfl rfl rfl hl.1 (Nat.le_of_ble_eq_true rfl) dX11_owed_18 (fun H18 locs18 hP' hD' hS' => ?_)
        replace hS := hS'
        replace hP : va_P (dC, dI) vwCl (fl [(w_X11 ad (b1) cs S1)]) H18 := hP'
        replace hD : va_D A (fl [(w_X11 ad (b1) cs S1)]) := hD'
        clear hP' hD' hS'
        refine lv_iadd hx hb dX11_owed_21 ?_
        refine lv_istore_n (lv' := [(1, .int (v1_4 + q18)), (0, .ref (ad b1)), (2, .int v2_4)]) hx hb dX11_owed_22 rfl hl (Nat.le_of_ble_eq_true rfl) rfl (fun ls hl => ?_)
        refine lv_iinc (v := (v2_4 + 1)) (lv' := [(2, .int (v2_4 + 1)), (1, .int (v1_4 + q18)), (0, .ref (ad b1))]) hx hb dX11_owed_23 hl (k := 2) rfl rfl (Nat.le_of_ble_eq_true rfl) rfl (fun ls hl => ?_)
        refine lv_goto (tgt := 4) hx hb dX11_owed_26 (by decide) ?_
        exact hI4 (v1_4 + q18) (v2_4 + 1) H18 _ ls hR hP hD hS (lv_sub hl [2, 1, 0] rfl)
  refine lv_iconst (v := 0) hx hb dX11_owed_0 ic_0 ?_
  refine lv_istore_n (lv' := [(1, .int (0 : Int32)), (0, .ref (ad b1))]) hx hb dX11_owed_1 rfl hl (Nat.le_of_ble_eq_true rfl) rfl (fun ls hl => ?_)
  refine lv_iconst (v := 0) hx hb dX11_owed_2 ic_0 ?_
  refine lv_istore_n (lv' := [(2, .int (0 : Int32)), (1, .int (0 : Int32)), (0, .ref (ad b1))]) hx hb dX11_owed_3 rfl hl (Nat.le_of_ble_eq_true rfl) rfl (fun ls hl => ?_)
  exact hB4 fuel (0 : Int32) (0 : Int32) s.heap _ ls hR hP hD hS (lv_sub hl [2, 1, 0] rfl)
set_option maxHeartbeats 8000000 in
set_option maxRecDepth 100000 in
theorem k_X11_unevenAll (l : Launch) (dC : Nat → ClassId) (dI : Nat → Nat → Nat) (cs : Nat → ClassId) (ad : Nat → Nat) (b1 : Nat) (sz : Nat) (S1 : T2) (r : Int32) (hR : fX11_unevenAll S1 = some r) : Met l yX11_unevenAll wsX11_unevenAll ({ frames := 4, cells := 0, slots := 0, locals := 88 } : Room) (va_Pc [.ref (ad b1)] (pW dC dI (tyL cs) (fl [(w_X11 ad (b1) cs S1)]) sz)) (QI dC dI (tyL cs) (va_A (fl [(w_X11 ad (b1) cs S1)]) sz) (fl [(w_X11 ad (b1) cs S1)]) r) 0 0 (va_A (fl [(w_X11 ad (b1) cs S1)]) sz) := by
  refine mt_of (own := RX11) (cc := cX11_unevenAll) (maxL := 3) (ret := (some .int)) (Qc := fun A => QI dC dI (tyL cs) A (fl [(w_X11 ad (b1) cs S1)]) r) rfl (by decide) rfl (Nat.le_of_ble_eq_true rfl) (fun p e s m below meth c A ls hsz hx hb hr hts hown hlocks hml hA hK hP hD hS hl => ?_)
  subst hsz
  have hl : lv_has ls 3 [(0, .ref (ad b1))] := hl
  have hF7 := hts (.fieldLink RX11 7 "DockedBikesModel" "s" "[I") (List.mem_of_getElem? (i := 1) rfl)
  have hinX11 : ∀ w ∈ wsX110, w ∈ wsX11_unevenAll := by decide +kernel
  have hB4 : ∀ (n4 : Nat), ∀ (v1_4 : Int32) (v2_4 : Int32) (H : Heap) (locs : List Loc) (ls : Array Slot), fX11_unevenAll_4 S1 n4 v1_4 v2_4 = some r → va_P (dC, dI) vwCl (fl [(w_X11 ad (b1) cs S1)]) H → va_D A (fl [(w_X11 ad (b1) cs S1)]) → va_S A s.heap H locs → lv_has ls 3 [(0, .ref (ad b1)), (1, .int v1_4), (2, .int v2_4)] → W p l e (headSpec wsX11_unevenAll ({ frames := 4, cells := 0, slots := 0, locals := 88 } : Room)).room s m ([.ref (ad b1)] : List Value).toArray below meth c H locs 0 0 (MQ below (QI dC dI (tyL cs) A (fl [(w_X11 ad (b1) cs S1)]) r) ([.ref (ad b1)] : List Value).toArray s 0 0 A) (F0 m 4 ls []) := by
    intro n4
    induction n4 with
    | zero =>
      intro v1_4 v2_4 H locs ls hR hP hD hS hl
      exact nn_e hR
    | succ n4 hI4 =>
      intro v1_4 v2_4 H locs ls hR hP hD hS hl
      rw [fX11_unevenAll_4] at hR
      refine lv_iload_n hx hb dX11_unevenAll_4 rfl (lv_at hl 2 rfl) ?_
      refine lv_aload_n hx hb dX11_unevenAll_5 rfl (lv_at hl 0 rfl) ?_
      refine va_get (D := (dC, dI)) (ci := 9) (v := .ref (ad (b1 + 1))) (C := RX11) (T := TX11) (N := 14) hx hb hts hinX11 hown hK hP 0 rfl rfl 0 (by decide) hF7 (fun _ h9 => h9) rfl dX11_unevenAll_6 ?_
      refine lv_iconst (v := 0) hx hb dX11_unevenAll_9 ic_0 ?_
      refine va_iald hx hb hK hP 1 0 rfl rfl vi_0_206 dX11_unevenAll_10 ?_
      refine lv_icmp_ge (tgt := 28) hx hb dX11_unevenAll_11 (by decide) (fun c11 => ?_) (fun c11 => ?_)
      · replace hR := it_t hR c11
        refine lv_iload_n hx hb dX11_unevenAll_28 rfl (lv_at hl 1 rfl) ?_
        replace hR := Option.some.inj hR
        have e9 := hR
        exact W.iret hx hb hr (fun t ht hW => ⟨⟨_, (), rfl, e9, by rw [ht]; exact hP, va_K.moved hW.alike hK, hD⟩, hS.F ht⟩) hS.2.2 dX11_unevenAll_29
      · replace hR := it_f hR c11
        refine lv_iload_n hx hb dX11_unevenAll_14 rfl (lv_at hl 1 rfl) ?_
        refine lv_aload_n hx hb dX11_unevenAll_15 rfl (lv_at hl 0 rfl) ?_
        refine lv_iload_n hx hb dX11_unevenAll_16 rfl (lv_at hl 2 rfl) ?_
        replace hR := bd_e hR
        obtain ⟨q17, gq17, hR⟩ := hR
        refine cl_Vi (As := [.int v2_4]) (rest := [.int v1_4]) (L := [(w_X11 ad (b1) cs S1)]) (L' := [(w_X11 ad (b1) cs S1)]) (Wc := [(w_X11 ad (b1) cs S1)]) (Wc' := [(w_X11 ad (b1) cs S1)]) (is := [0]) (js := []) ⟨hx, hb, hml, hown, hts⟩ (k_X11_unevenNow l dC dI cs ad (b1) H.size S1 v2_4 q17 gq17) (cwV 1 hts gX11_unevenAll_X11_unevenNow rfl rfl rfl cd_X11_unevenNow ⟨Nat.le_of_ble_eq_true rfl, Nat.le_of_ble_eq_true rfl⟩) hK hP hD hS hA ⟨rfl, rfl, rfl, rfl, rfl, rfl⟩ (jn_nd (is := [0]) hD rfl rfl) 0 9 rfl rfl rfl rfl rfl hl.1 (Nat.le_of_ble_eq_true rfl) dX11_unevenAll_17 (fun H17 locs17 hP' hD' hS' => ?_)
        replace hS := hS'
        replace hP : va_P (dC, dI) vwCl (fl [(w_X11 ad (b1) cs S1)]) H17 := hP'
        replace hD : va_D A (fl [(w_X11 ad (b1) cs S1)]) := hD'
        clear hP' hD' hS'
        refine lv_iadd hx hb dX11_unevenAll_20 ?_
        refine lv_istore_n (lv' := [(1, .int (v1_4 + q17)), (0, .ref (ad b1)), (2, .int v2_4)]) hx hb dX11_unevenAll_21 rfl hl (Nat.le_of_ble_eq_true rfl) rfl (fun ls hl => ?_)
        refine lv_iinc (v := (v2_4 + 1)) (lv' := [(2, .int (v2_4 + 1)), (1, .int (v1_4 + q17)), (0, .ref (ad b1))]) hx hb dX11_unevenAll_22 hl (k := 2) rfl rfl (Nat.le_of_ble_eq_true rfl) rfl (fun ls hl => ?_)
        refine lv_goto (tgt := 4) hx hb dX11_unevenAll_25 (by decide) ?_
        exact hI4 (v1_4 + q17) (v2_4 + 1) H17 _ ls hR hP hD hS (lv_sub hl [2, 1, 0] rfl)
  refine lv_iconst (v := 0) hx hb dX11_unevenAll_0 ic_0 ?_
  refine lv_istore_n (lv' := [(1, .int (0 : Int32)), (0, .ref (ad b1))]) hx hb dX11_unevenAll_1 rfl hl (Nat.le_of_ble_eq_true rfl) rfl (fun ls hl => ?_)
  refine lv_iconst (v := 0) hx hb dX11_unevenAll_2 ic_0 ?_
  refine lv_istore_n (lv' := [(2, .int (0 : Int32)), (1, .int (0 : Int32)), (0, .ref (ad b1))]) hx hb dX11_unevenAll_3 rfl hl (Nat.le_of_ble_eq_true rfl) rfl (fun ls hl => ?_)
  exact hB4 fuel (0 : Int32) (0 : Int32) s.heap _ ls hR hP hD hS (lv_sub hl [2, 1, 0] rfl)
set_option maxHeartbeats 8000000 in
set_option maxRecDepth 100000 in
theorem k_X11_count (l : Launch) (dC : Nat → ClassId) (dI : Nat → Nat → Nat) (cs : Nat → ClassId) (ad : Nat → Nat) (b1 : Nat) (sz : Nat) (S1 : T2) (p1 : Int32) (r : Int32) (hR : fX11_count S1 p1 = some r) : Met l yX11_count wsX11_count ({ frames := 5, cells := 0, slots := 0, locals := 110 } : Room) (va_Pc [.ref (ad b1), .int p1] (pW dC dI (tyL cs) (fl [(w_X11 ad (b1) cs S1)]) sz)) (QI dC dI (tyL cs) (va_A (fl [(w_X11 ad (b1) cs S1)]) sz) (fl [(w_X11 ad (b1) cs S1)]) r) 0 0 (va_A (fl [(w_X11 ad (b1) cs S1)]) sz) := by
  refine mt_of (own := RX11) (cc := cX11_count) (maxL := 2) (ret := (some .int)) (Qc := fun A => QI dC dI (tyL cs) A (fl [(w_X11 ad (b1) cs S1)]) r) rfl (by decide) rfl (Nat.le_of_ble_eq_true rfl) (fun p e s m below meth c A ls hsz hx hb hr hts hown hlocks hml hA hK hP hD hS hl => ?_)
  subst hsz
  have hl : lv_has ls 2 [(0, .ref (ad b1)), (1, .int p1)] := hl
  have hF7 := hts (.fieldLink RX11 7 "DockedBikesModel" "s" "[I") (List.mem_of_getElem? (i := 1) rfl)
  have hF32 := hts (.fieldLink RX11 32 "DockedBikesModel" "pasts" "I") (List.mem_of_getElem? (i := 2) rfl)
  have hF138 := hts (.fieldLink RX11 138 "DockedBikesModel" "typed" "I") (List.mem_of_getElem? (i := 3) rfl)
  have hF141 := hts (.fieldLink RX11 141 "DockedBikesModel" "isKept" "Z") (List.mem_of_getElem? (i := 4) rfl)
  have hinX11 : ∀ w ∈ wsX110, w ∈ wsX11_count := by decide +kernel
  refine lv_iload_n hx hb dX11_count_0 rfl (lv_at hl 1 rfl) ?_
  by_cases c1_0 : p1 = 0
  · replace hR := it_t hR c1_0
    refine lv_tableIn (off := 79) (tgt := 80) hx hb dX11_count_1 (by rw [c1_0]; decide) (by rw [c1_0]; decide) (by rw [c1_0]; rfl) (by decide) ?_
    refine lv_aload_n hx hb dX11_count_80 rfl (lv_at hl 0 rfl) ?_
    refine va_get (D := (dC, dI)) (ci := 9) (v := .ref (ad (b1 + 1))) (C := RX11) (T := TX11) (N := 14) hx hb hts hinX11 hown hK hP 0 rfl rfl 0 (by decide) hF7 (fun _ h9 => h9) rfl dX11_count_81 ?_
    refine lv_iload_n hx hb dX11_count_84 rfl (lv_at hl 1 rfl) ?_
    replace hR := gi_e hR
    obtain ⟨i85, hR⟩ := hR
    refine va_iald hx hb hK hP 1 0 rfl rfl i85 dX11_count_85 ?_
    replace hR := Option.some.inj hR
    have e9 := hR
    exact W.iret hx hb hr (fun t ht hW => ⟨⟨_, (), rfl, e9, by rw [ht]; exact hP, va_K.moved hW.alike hK, hD⟩, hS.F ht⟩) hS.2.2 dX11_count_86
  · replace hR := it_f hR c1_0
    by_cases c1_1 : p1 = 1
    · replace hR := it_t hR c1_1
      refine lv_tableIn (off := 79) (tgt := 80) hx hb dX11_count_1 (by rw [c1_1]; decide) (by rw [c1_1]; decide) (by rw [c1_1]; rfl) (by decide) ?_
      refine lv_aload_n hx hb dX11_count_80 rfl (lv_at hl 0 rfl) ?_
      refine va_get (D := (dC, dI)) (ci := 9) (v := .ref (ad (b1 + 1))) (C := RX11) (T := TX11) (N := 14) hx hb hts hinX11 hown hK hP 0 rfl rfl 0 (by decide) hF7 (fun _ h9 => h9) rfl dX11_count_81 ?_
      refine lv_iload_n hx hb dX11_count_84 rfl (lv_at hl 1 rfl) ?_
      replace hR := gi_e hR
      obtain ⟨i85, hR⟩ := hR
      refine va_iald hx hb hK hP 1 0 rfl rfl i85 dX11_count_85 ?_
      replace hR := Option.some.inj hR
      have e9 := hR
      exact W.iret hx hb hr (fun t ht hW => ⟨⟨_, (), rfl, e9, by rw [ht]; exact hP, va_K.moved hW.alike hK, hD⟩, hS.F ht⟩) hS.2.2 dX11_count_86
    · replace hR := it_f hR c1_1
      by_cases c1_2 : p1 = 2
      · replace hR := it_t hR c1_2
        refine lv_tableIn (off := 79) (tgt := 80) hx hb dX11_count_1 (by rw [c1_2]; decide) (by rw [c1_2]; decide) (by rw [c1_2]; rfl) (by decide) ?_
        refine lv_aload_n hx hb dX11_count_80 rfl (lv_at hl 0 rfl) ?_
        refine va_get (D := (dC, dI)) (ci := 9) (v := .ref (ad (b1 + 1))) (C := RX11) (T := TX11) (N := 14) hx hb hts hinX11 hown hK hP 0 rfl rfl 0 (by decide) hF7 (fun _ h9 => h9) rfl dX11_count_81 ?_
        refine lv_iload_n hx hb dX11_count_84 rfl (lv_at hl 1 rfl) ?_
        replace hR := gi_e hR
        obtain ⟨i85, hR⟩ := hR
        refine va_iald hx hb hK hP 1 0 rfl rfl i85 dX11_count_85 ?_
        replace hR := Option.some.inj hR
        have e9 := hR
        exact W.iret hx hb hr (fun t ht hW => ⟨⟨_, (), rfl, e9, by rw [ht]; exact hP, va_K.moved hW.alike hK, hD⟩, hS.F ht⟩) hS.2.2 dX11_count_86
      · replace hR := it_f hR c1_2
        by_cases c1_3 : p1 = 3
        · replace hR := it_t hR c1_3
          refine lv_tableIn (off := 79) (tgt := 80) hx hb dX11_count_1 (by rw [c1_3]; decide) (by rw [c1_3]; decide) (by rw [c1_3]; rfl) (by decide) ?_
          refine lv_aload_n hx hb dX11_count_80 rfl (lv_at hl 0 rfl) ?_
          refine va_get (D := (dC, dI)) (ci := 9) (v := .ref (ad (b1 + 1))) (C := RX11) (T := TX11) (N := 14) hx hb hts hinX11 hown hK hP 0 rfl rfl 0 (by decide) hF7 (fun _ h9 => h9) rfl dX11_count_81 ?_
          refine lv_iload_n hx hb dX11_count_84 rfl (lv_at hl 1 rfl) ?_
          replace hR := gi_e hR
          obtain ⟨i85, hR⟩ := hR
          refine va_iald hx hb hK hP 1 0 rfl rfl i85 dX11_count_85 ?_
          replace hR := Option.some.inj hR
          have e9 := hR
          exact W.iret hx hb hr (fun t ht hW => ⟨⟨_, (), rfl, e9, by rw [ht]; exact hP, va_K.moved hW.alike hK, hD⟩, hS.F ht⟩) hS.2.2 dX11_count_86
        · replace hR := it_f hR c1_3
          by_cases c1_4 : p1 = 4
          · replace hR := it_t hR c1_4
            refine lv_tableIn (off := 79) (tgt := 80) hx hb dX11_count_1 (by rw [c1_4]; decide) (by rw [c1_4]; decide) (by rw [c1_4]; rfl) (by decide) ?_
            refine lv_aload_n hx hb dX11_count_80 rfl (lv_at hl 0 rfl) ?_
            refine va_get (D := (dC, dI)) (ci := 9) (v := .ref (ad (b1 + 1))) (C := RX11) (T := TX11) (N := 14) hx hb hts hinX11 hown hK hP 0 rfl rfl 0 (by decide) hF7 (fun _ h9 => h9) rfl dX11_count_81 ?_
            refine lv_iload_n hx hb dX11_count_84 rfl (lv_at hl 1 rfl) ?_
            replace hR := gi_e hR
            obtain ⟨i85, hR⟩ := hR
            refine va_iald hx hb hK hP 1 0 rfl rfl i85 dX11_count_85 ?_
            replace hR := Option.some.inj hR
            have e9 := hR
            exact W.iret hx hb hr (fun t ht hW => ⟨⟨_, (), rfl, e9, by rw [ht]; exact hP, va_K.moved hW.alike hK, hD⟩, hS.F ht⟩) hS.2.2 dX11_count_86
          · replace hR := it_f hR c1_4
            by_cases c1_5 : p1 = 5
            · replace hR := it_t hR c1_5
              refine lv_tableIn (off := 86) (tgt := 87) hx hb dX11_count_1 (by rw [c1_5]; decide) (by rw [c1_5]; decide) (by rw [c1_5]; rfl) (by decide) ?_
              refine lv_aload_n hx hb dX11_count_87 rfl (lv_at hl 0 rfl) ?_
              refine lv_iload_n hx hb dX11_count_88 rfl (lv_at hl 1 rfl) ?_
              refine lv_iconst (v := 5) hx hb dX11_count_89 ic_5 ?_
              refine lv_isub hx hb dX11_count_90 ?_
              replace hR := bd_e hR
              obtain ⟨q91, gq91, hR⟩ := hR
              refine cl_Vi (As := [.int (p1 - 5)]) (rest := []) (L := [(w_X11 ad (b1) cs S1)]) (L' := [(w_X11 ad (b1) cs S1)]) (Wc := [(w_X11 ad (b1) cs S1)]) (Wc' := [(w_X11 ad (b1) cs S1)]) (is := [0]) (js := []) ⟨hx, hb, hml, hown, hts⟩ (k_X11_inState l dC dI cs ad (b1) s.heap.size S1 (p1 - 5) q91 gq91) (cwV 1 hts gX11_count_X11_inState rfl rfl rfl cd_X11_inState ⟨Nat.le_of_ble_eq_true rfl, Nat.le_of_ble_eq_true rfl⟩) hK hP hD hS hA ⟨rfl, rfl, rfl, rfl, rfl, rfl⟩ (jn_nd (is := [0]) hD rfl rfl) 0 9 rfl rfl rfl rfl rfl hl.1 (Nat.le_of_ble_eq_true rfl) dX11_count_91 (fun H91 locs91 hP' hD' hS' => ?_)
              replace hS := hS'
              replace hP : va_P (dC, dI) vwCl (fl [(w_X11 ad (b1) cs S1)]) H91 := hP'
              replace hD : va_D A (fl [(w_X11 ad (b1) cs S1)]) := hD'
              clear hP' hD' hS'
              replace hR := Option.some.inj hR
              have e9 := hR
              exact W.iret hx hb hr (fun t ht hW => ⟨⟨_, (), rfl, e9, by rw [ht]; exact hP, va_K.moved hW.alike hK, hD⟩, hS.F ht⟩) hS.2.2 dX11_count_94
            · replace hR := it_f hR c1_5
              by_cases c1_6 : p1 = 6
              · replace hR := it_t hR c1_6
                refine lv_tableIn (off := 86) (tgt := 87) hx hb dX11_count_1 (by rw [c1_6]; decide) (by rw [c1_6]; decide) (by rw [c1_6]; rfl) (by decide) ?_
                refine lv_aload_n hx hb dX11_count_87 rfl (lv_at hl 0 rfl) ?_
                refine lv_iload_n hx hb dX11_count_88 rfl (lv_at hl 1 rfl) ?_
                refine lv_iconst (v := 5) hx hb dX11_count_89 ic_5 ?_
                refine lv_isub hx hb dX11_count_90 ?_
                replace hR := bd_e hR
                obtain ⟨q91, gq91, hR⟩ := hR
                refine cl_Vi (As := [.int (p1 - 5)]) (rest := []) (L := [(w_X11 ad (b1) cs S1)]) (L' := [(w_X11 ad (b1) cs S1)]) (Wc := [(w_X11 ad (b1) cs S1)]) (Wc' := [(w_X11 ad (b1) cs S1)]) (is := [0]) (js := []) ⟨hx, hb, hml, hown, hts⟩ (k_X11_inState l dC dI cs ad (b1) s.heap.size S1 (p1 - 5) q91 gq91) (cwV 1 hts gX11_count_X11_inState rfl rfl rfl cd_X11_inState ⟨Nat.le_of_ble_eq_true rfl, Nat.le_of_ble_eq_true rfl⟩) hK hP hD hS hA ⟨rfl, rfl, rfl, rfl, rfl, rfl⟩ (jn_nd (is := [0]) hD rfl rfl) 0 9 rfl rfl rfl rfl rfl hl.1 (Nat.le_of_ble_eq_true rfl) dX11_count_91 (fun H91 locs91 hP' hD' hS' => ?_)
                replace hS := hS'
                replace hP : va_P (dC, dI) vwCl (fl [(w_X11 ad (b1) cs S1)]) H91 := hP'
                replace hD : va_D A (fl [(w_X11 ad (b1) cs S1)]) := hD'
                clear hP' hD' hS'
                replace hR := Option.some.inj hR
                have e9 := hR
                exact W.iret hx hb hr (fun t ht hW => ⟨⟨_, (), rfl, e9, by rw [ht]; exact hP, va_K.moved hW.alike hK, hD⟩, hS.F ht⟩) hS.2.2 dX11_count_94
              · replace hR := it_f hR c1_6
                by_cases c1_7 : p1 = 7
                · replace hR := it_t hR c1_7
                  refine lv_tableIn (off := 86) (tgt := 87) hx hb dX11_count_1 (by rw [c1_7]; decide) (by rw [c1_7]; decide) (by rw [c1_7]; rfl) (by decide) ?_
                  refine lv_aload_n hx hb dX11_count_87 rfl (lv_at hl 0 rfl) ?_
                  refine lv_iload_n hx hb dX11_count_88 rfl (lv_at hl 1 rfl) ?_
                  refine lv_iconst (v := 5) hx hb dX11_count_89 ic_5 ?_
                  refine lv_isub hx hb dX11_count_90 ?_
                  replace hR := bd_e hR
                  obtain ⟨q91, gq91, hR⟩ := hR
                  refine cl_Vi (As := [.int (p1 - 5)]) (rest := []) (L := [(w_X11 ad (b1) cs S1)]) (L' := [(w_X11 ad (b1) cs S1)]) (Wc := [(w_X11 ad (b1) cs S1)]) (Wc' := [(w_X11 ad (b1) cs S1)]) (is := [0]) (js := []) ⟨hx, hb, hml, hown, hts⟩ (k_X11_inState l dC dI cs ad (b1) s.heap.size S1 (p1 - 5) q91 gq91) (cwV 1 hts gX11_count_X11_inState rfl rfl rfl cd_X11_inState ⟨Nat.le_of_ble_eq_true rfl, Nat.le_of_ble_eq_true rfl⟩) hK hP hD hS hA ⟨rfl, rfl, rfl, rfl, rfl, rfl⟩ (jn_nd (is := [0]) hD rfl rfl) 0 9 rfl rfl rfl rfl rfl hl.1 (Nat.le_of_ble_eq_true rfl) dX11_count_91 (fun H91 locs91 hP' hD' hS' => ?_)
                  replace hS := hS'
                  replace hP : va_P (dC, dI) vwCl (fl [(w_X11 ad (b1) cs S1)]) H91 := hP'
                  replace hD : va_D A (fl [(w_X11 ad (b1) cs S1)]) := hD'
                  clear hP' hD' hS'
                  replace hR := Option.some.inj hR
                  have e9 := hR
                  exact W.iret hx hb hr (fun t ht hW => ⟨⟨_, (), rfl, e9, by rw [ht]; exact hP, va_K.moved hW.alike hK, hD⟩, hS.F ht⟩) hS.2.2 dX11_count_94
                · replace hR := it_f hR c1_7
                  by_cases c1_8 : p1 = 8
                  · replace hR := it_t hR c1_8
                    refine lv_tableIn (off := 86) (tgt := 87) hx hb dX11_count_1 (by rw [c1_8]; decide) (by rw [c1_8]; decide) (by rw [c1_8]; rfl) (by decide) ?_
                    refine lv_aload_n hx hb dX11_count_87 rfl (lv_at hl 0 rfl) ?_
                    refine lv_iload_n hx hb dX11_count_88 rfl (lv_at hl 1 rfl) ?_
                    refine lv_iconst (v := 5) hx hb dX11_count_89 ic_5 ?_
                    refine lv_isub hx hb dX11_count_90 ?_
                    replace hR := bd_e hR
                    obtain ⟨q91, gq91, hR⟩ := hR
                    refine cl_Vi (As := [.int (p1 - 5)]) (rest := []) (L := [(w_X11 ad (b1) cs S1)]) (L' := [(w_X11 ad (b1) cs S1)]) (Wc := [(w_X11 ad (b1) cs S1)]) (Wc' := [(w_X11 ad (b1) cs S1)]) (is := [0]) (js := []) ⟨hx, hb, hml, hown, hts⟩ (k_X11_inState l dC dI cs ad (b1) s.heap.size S1 (p1 - 5) q91 gq91) (cwV 1 hts gX11_count_X11_inState rfl rfl rfl cd_X11_inState ⟨Nat.le_of_ble_eq_true rfl, Nat.le_of_ble_eq_true rfl⟩) hK hP hD hS hA ⟨rfl, rfl, rfl, rfl, rfl, rfl⟩ (jn_nd (is := [0]) hD rfl rfl) 0 9 rfl rfl rfl rfl rfl hl.1 (Nat.le_of_ble_eq_true rfl) dX11_count_91 (fun H91 locs91 hP' hD' hS' => ?_)
                    replace hS := hS'
                    replace hP : va_P (dC, dI) vwCl (fl [(w_X11 ad (b1) cs S1)]) H91 := hP'
                    replace hD : va_D A (fl [(w_X11 ad (b1) cs S1)]) := hD'
                    clear hP' hD' hS'
                    replace hR := Option.some.inj hR
                    have e9 := hR
                    exact W.iret hx hb hr (fun t ht hW => ⟨⟨_, (), rfl, e9, by rw [ht]; exact hP, va_K.moved hW.alike hK, hD⟩, hS.F ht⟩) hS.2.2 dX11_count_94
                  · replace hR := it_f hR c1_8
                    by_cases c1_9 : p1 = 9
                    · replace hR := it_t hR c1_9
                      refine lv_tableIn (off := 94) (tgt := 95) hx hb dX11_count_1 (by rw [c1_9]; decide) (by rw [c1_9]; decide) (by rw [c1_9]; rfl) (by decide) ?_
                      refine lv_aload_n hx hb dX11_count_95 rfl (lv_at hl 0 rfl) ?_
                      replace hR := bd_e hR
                      obtain ⟨q96, gq96, hR⟩ := hR
                      refine cl_Vi (As := []) (rest := []) (L := [(w_X11 ad (b1) cs S1)]) (L' := [(w_X11 ad (b1) cs S1)]) (Wc := [(w_X11 ad (b1) cs S1)]) (Wc' := [(w_X11 ad (b1) cs S1)]) (is := [0]) (js := []) ⟨hx, hb, hml, hown, hts⟩ (k_X11_faulty l dC dI cs ad (b1) s.heap.size S1 q96 gq96) (cwV 0 hts gX11_count_X11_faulty rfl rfl rfl cd_X11_faulty ⟨Nat.le_of_ble_eq_true rfl, Nat.le_of_ble_eq_true rfl⟩) hK hP hD hS hA ⟨rfl, rfl, rfl, rfl, rfl, rfl⟩ (jn_nd (is := [0]) hD rfl rfl) 0 9 rfl rfl rfl rfl rfl hl.1 (Nat.le_of_ble_eq_true rfl) dX11_count_96 (fun H96 locs96 hP' hD' hS' => ?_)
                      replace hS := hS'
                      replace hP : va_P (dC, dI) vwCl (fl [(w_X11 ad (b1) cs S1)]) H96 := hP'
                      replace hD : va_D A (fl [(w_X11 ad (b1) cs S1)]) := hD'
                      clear hP' hD' hS'
                      replace hR := Option.some.inj hR
                      have e9 := hR
                      exact W.iret hx hb hr (fun t ht hW => ⟨⟨_, (), rfl, e9, by rw [ht]; exact hP, va_K.moved hW.alike hK, hD⟩, hS.F ht⟩) hS.2.2 dX11_count_99
                    · replace hR := it_f hR c1_9
                      by_cases c1_10 : p1 = 10
                      · replace hR := it_t hR c1_10
                        refine lv_tableIn (off := 99) (tgt := 100) hx hb dX11_count_1 (by rw [c1_10]; decide) (by rw [c1_10]; decide) (by rw [c1_10]; rfl) (by decide) ?_
                        refine lv_aload_n hx hb dX11_count_100 rfl (lv_at hl 0 rfl) ?_
                        replace hR := bd_e hR
                        obtain ⟨q101, gq101, hR⟩ := hR
                        refine cl_Vi (As := []) (rest := []) (L := [(w_X11 ad (b1) cs S1)]) (L' := [(w_X11 ad (b1) cs S1)]) (Wc := [(w_X11 ad (b1) cs S1)]) (Wc' := [(w_X11 ad (b1) cs S1)]) (is := [0]) (js := []) ⟨hx, hb, hml, hown, hts⟩ (k_X11_allDocks l dC dI cs ad (b1) s.heap.size S1 q101 gq101) (cwV 0 hts gX11_count_X11_allDocks rfl rfl rfl cd_X11_allDocks ⟨Nat.le_of_ble_eq_true rfl, Nat.le_of_ble_eq_true rfl⟩) hK hP hD hS hA ⟨rfl, rfl, rfl, rfl, rfl, rfl⟩ (jn_nd (is := [0]) hD rfl rfl) 0 9 rfl rfl rfl rfl rfl hl.1 (Nat.le_of_ble_eq_true rfl) dX11_count_101 (fun H101 locs101 hP' hD' hS' => ?_)
                        replace hS := hS'
                        replace hP : va_P (dC, dI) vwCl (fl [(w_X11 ad (b1) cs S1)]) H101 := hP'
                        replace hD : va_D A (fl [(w_X11 ad (b1) cs S1)]) := hD'
                        clear hP' hD' hS'
                        replace hR := Option.some.inj hR
                        have e9 := hR
                        exact W.iret hx hb hr (fun t ht hW => ⟨⟨_, (), rfl, e9, by rw [ht]; exact hP, va_K.moved hW.alike hK, hD⟩, hS.F ht⟩) hS.2.2 dX11_count_104
                      · replace hR := it_f hR c1_10
                        by_cases c1_11 : p1 = 11
                        · replace hR := it_t hR c1_11
                          refine lv_tableIn (off := 104) (tgt := 105) hx hb dX11_count_1 (by rw [c1_11]; decide) (by rw [c1_11]; decide) (by rw [c1_11]; rfl) (by decide) ?_
                          refine lv_aload_n hx hb dX11_count_105 rfl (lv_at hl 0 rfl) ?_
                          replace hR := bd_e hR
                          obtain ⟨q106, gq106, hR⟩ := hR
                          refine cl_Vi (As := []) (rest := []) (L := [(w_X11 ad (b1) cs S1)]) (L' := [(w_X11 ad (b1) cs S1)]) (Wc := [(w_X11 ad (b1) cs S1)]) (Wc' := [(w_X11 ad (b1) cs S1)]) (is := [0]) (js := []) ⟨hx, hb, hml, hown, hts⟩ (k_X11_owed l dC dI cs ad (b1) s.heap.size S1 q106 gq106) (cwV 0 hts gX11_count_X11_owed rfl rfl rfl cd_X11_owed ⟨Nat.le_of_ble_eq_true rfl, Nat.le_of_ble_eq_true rfl⟩) hK hP hD hS hA ⟨rfl, rfl, rfl, rfl, rfl, rfl⟩ (jn_nd (is := [0]) hD rfl rfl) 0 9 rfl rfl rfl rfl rfl hl.1 (Nat.le_of_ble_eq_true rfl) dX11_count_106 (fun H106 locs106 hP' hD' hS' => ?_)
                          replace hS := hS'
                          replace hP : va_P (dC, dI) vwCl (fl [(w_X11 ad (b1) cs S1)]) H106 := hP'
                          replace hD : va_D A (fl [(w_X11 ad (b1) cs S1)]) := hD'
                          clear hP' hD' hS'
                          replace hR := Option.some.inj hR
                          have e9 := hR
                          exact W.iret hx hb hr (fun t ht hW => ⟨⟨_, (), rfl, e9, by rw [ht]; exact hP, va_K.moved hW.alike hK, hD⟩, hS.F ht⟩) hS.2.2 dX11_count_109
                        · replace hR := it_f hR c1_11
                          by_cases c1_12 : p1 = 12
                          · replace hR := it_t hR c1_12
                            refine lv_tableIn (off := 109) (tgt := 110) hx hb dX11_count_1 (by rw [c1_12]; decide) (by rw [c1_12]; decide) (by rw [c1_12]; rfl) (by decide) ?_
                            refine lv_aload_n hx hb dX11_count_110 rfl (lv_at hl 0 rfl) ?_
                            replace hR := bd_e hR
                            obtain ⟨q111, gq111, hR⟩ := hR
                            refine cl_Vi (As := []) (rest := []) (L := [(w_X11 ad (b1) cs S1)]) (L' := [(w_X11 ad (b1) cs S1)]) (Wc := [(w_X11 ad (b1) cs S1)]) (Wc' := [(w_X11 ad (b1) cs S1)]) (is := [0]) (js := []) ⟨hx, hb, hml, hown, hts⟩ (k_X11_unevenAll l dC dI cs ad (b1) s.heap.size S1 q111 gq111) (cwV 0 hts gX11_count_X11_unevenAll rfl rfl rfl cd_X11_unevenAll ⟨Nat.le_of_ble_eq_true rfl, Nat.le_of_ble_eq_true rfl⟩) hK hP hD hS hA ⟨rfl, rfl, rfl, rfl, rfl, rfl⟩ (jn_nd (is := [0]) hD rfl rfl) 0 9 rfl rfl rfl rfl rfl hl.1 (Nat.le_of_ble_eq_true rfl) dX11_count_111 (fun H111 locs111 hP' hD' hS' => ?_)
                            replace hS := hS'
                            replace hP : va_P (dC, dI) vwCl (fl [(w_X11 ad (b1) cs S1)]) H111 := hP'
                            replace hD : va_D A (fl [(w_X11 ad (b1) cs S1)]) := hD'
                            clear hP' hD' hS'
                            replace hR := Option.some.inj hR
                            have e9 := hR
                            exact W.iret hx hb hr (fun t ht hW => ⟨⟨_, (), rfl, e9, by rw [ht]; exact hP, va_K.moved hW.alike hK, hD⟩, hS.F ht⟩) hS.2.2 dX11_count_114
                          · replace hR := it_f hR c1_12
                            by_cases c1_13 : p1 = 13
                            · replace hR := it_t hR c1_13
                              refine lv_tableIn (off := 114) (tgt := 115) hx hb dX11_count_1 (by rw [c1_13]; decide) (by rw [c1_13]; decide) (by rw [c1_13]; rfl) (by decide) ?_
                              refine lv_aload_n hx hb dX11_count_115 rfl (lv_at hl 0 rfl) ?_
                              refine va_get (D := (dC, dI)) (ci := 9) (v := .int (S1 6 1)) (C := RX11) (T := TX11) (N := 14) hx hb hts hinX11 hown hK hP 0 rfl rfl 5 (by decide) hF32 (fun _ h9 => h9) rfl dX11_count_116 ?_
                              replace hR := Option.some.inj hR
                              have e9 := hR
                              exact W.iret hx hb hr (fun t ht hW => ⟨⟨_, (), rfl, e9, by rw [ht]; exact hP, va_K.moved hW.alike hK, hD⟩, hS.F ht⟩) hS.2.2 dX11_count_119
                            · replace hR := it_f hR c1_13
                              by_cases c1_14 : p1 = 14
                              · replace hR := it_t hR c1_14
                                refine lv_tableIn (off := 119) (tgt := 120) hx hb dX11_count_1 (by rw [c1_14]; decide) (by rw [c1_14]; decide) (by rw [c1_14]; rfl) (by decide) ?_
                                refine lv_aload_n hx hb dX11_count_120 rfl (lv_at hl 0 rfl) ?_
                                refine va_get (D := (dC, dI)) (ci := 9) (v := .int (S1 6 3)) (C := RX11) (T := TX11) (N := 14) hx hb hts hinX11 hown hK hP 0 rfl rfl 8 (by decide) hF138 (fun _ h9 => h9) rfl dX11_count_121 ?_
                                replace hR := Option.some.inj hR
                                have e9 := hR
                                exact W.iret hx hb hr (fun t ht hW => ⟨⟨_, (), rfl, e9, by rw [ht]; exact hP, va_K.moved hW.alike hK, hD⟩, hS.F ht⟩) hS.2.2 dX11_count_124
                              · replace hR := it_f hR c1_14
                                by_cases c1_15 : p1 = 15
                                · replace hR := it_t hR c1_15
                                  refine lv_tableIn (off := 124) (tgt := 125) hx hb dX11_count_1 (by rw [c1_15]; decide) (by rw [c1_15]; decide) (by rw [c1_15]; rfl) (by decide) ?_
                                  refine lv_aload_n hx hb dX11_count_125 rfl (lv_at hl 0 rfl) ?_
                                  refine va_get (D := (dC, dI)) (ci := 9) (v := .int (S1 6 0)) (C := RX11) (T := TX11) (N := 14) hx hb hts hinX11 hown hK hP 0 rfl rfl 4 (by decide) hF141 (fun _ h9 => h9) rfl dX11_count_126 ?_
                                  refine lv_if_eq (tgt := 136) hx hb dX11_count_129 (by decide) (fun c129 => ?_) (fun c129 => ?_)
                                  · replace hR := it_t hR c129
                                    refine lv_iconst (v := 0) hx hb dX11_count_136 ic_0 ?_
                                    replace hR := Option.some.inj hR
                                    have e9 := hR
                                    exact W.iret hx hb hr (fun t ht hW => ⟨⟨_, (), rfl, e9, by rw [ht]; exact hP, va_K.moved hW.alike hK, hD⟩, hS.F ht⟩) hS.2.2 dX11_count_137
                                  · replace hR := it_f hR c129
                                    refine lv_iconst (v := 1) hx hb dX11_count_132 ic_1 ?_
                                    refine lv_goto (tgt := 137) hx hb dX11_count_133 (by decide) ?_
                                    replace hR := Option.some.inj hR
                                    have e9 := hR
                                    exact W.iret hx hb hr (fun t ht hW => ⟨⟨_, (), rfl, e9, by rw [ht]; exact hP, va_K.moved hW.alike hK, hD⟩, hS.F ht⟩) hS.2.2 dX11_count_137
                                · replace hR := it_f hR c1_15
                                  refine lv_tableOut (tgt := 138) hx hb dX11_count_1 (by have n0 := lv_neT (a := 0) c1_0 rfl; have n1 := lv_neT (a := 1) c1_1 rfl; have n2 := lv_neT (a := 2) c1_2 rfl; have n3 := lv_neT (a := 3) c1_3 rfl; have n4 := lv_neT (a := 4) c1_4 rfl; have n5 := lv_neT (a := 5) c1_5 rfl; have n6 := lv_neT (a := 6) c1_6 rfl; have n7 := lv_neT (a := 7) c1_7 rfl; have n8 := lv_neT (a := 8) c1_8 rfl; have n9 := lv_neT (a := 9) c1_9 rfl; have n10 := lv_neT (a := 10) c1_10 rfl; have n11 := lv_neT (a := 11) c1_11 rfl; have n12 := lv_neT (a := 12) c1_12 rfl; have n13 := lv_neT (a := 13) c1_13 rfl; have n14 := lv_neT (a := 14) c1_14 rfl; have n15 := lv_neT (a := 15) c1_15 rfl; omega) (by decide) ?_
                                  refine lv_iload_n hx hb dX11_count_138 rfl (lv_at hl 1 rfl) ?_
                                  refine lv_bipush (v := 20) hx hb dX11_count_139 bp_20 ?_
                                  refine lv_bipush (v := 22) hx hb dX11_count_141 bp_22 ?_
                                  replace hR := bd_e hR
                                  obtain ⟨q143, gq143, hR⟩ := hR
                                  refine cl_Si (As := [.int p1, .int (20 : Int32), .int (22 : Int32)]) (rest := []) (L := [(w_X11 ad (b1) cs S1)]) (L' := [(w_X11 ad (b1) cs S1)]) (Wc := []) (Wc' := []) (is := []) (js := [0]) ⟨hx, hb, hml, hown, hts⟩ (k_X11_in l dC dI cs ad s.heap.size p1 (20 : Int32) (22 : Int32) q143 gq143) (cwS 3 hts gX11_count_X11_in rfl rfl rfl cd_X11_in ⟨Nat.le_of_ble_eq_true rfl, Nat.le_of_ble_eq_true rfl⟩) hK hP hD hS hA ⟨rfl, rfl, rfl, rfl, rfl, rfl⟩ (jn_nd (is := []) hD rfl rfl) rfl rfl hl.1 (Nat.le_of_ble_eq_true rfl) dX11_count_143 (fun H143 locs143 hP' hD' hS' => ?_)
                                  replace hS := hS'
                                  replace hP : va_P (dC, dI) vwCl (fl [(w_X11 ad (b1) cs S1)]) H143 := hP'
                                  replace hD : va_D A (fl [(w_X11 ad (b1) cs S1)]) := hD'
                                  clear hP' hD' hS'
                                  refine lv_if_eq (tgt := 163) hx hb dX11_count_146 (by decide) (fun c146 => ?_) (fun c146 => ?_)
                                  · replace hR := it_t hR c146
                                    refine lv_iconst (v := (-1)) hx hb dX11_count_163 ic_m1 ?_
                                    replace hR := Option.some.inj hR
                                    have e9 := hR
                                    exact W.iret hx hb hr (fun t ht hW => ⟨⟨_, (), rfl, e9, by rw [ht]; exact hP, va_K.moved hW.alike hK, hD⟩, hS.F ht⟩) hS.2.2 dX11_count_164
                                  · replace hR := it_f hR c146
                                    refine lv_aload_n hx hb dX11_count_149 rfl (lv_at hl 0 rfl) ?_
                                    refine va_get (D := (dC, dI)) (ci := 9) (v := .ref (ad (b1 + 1))) (C := RX11) (T := TX11) (N := 14) hx hb hts hinX11 hown hK hP 0 rfl rfl 0 (by decide) hF7 (fun _ h9 => h9) rfl dX11_count_150 ?_
                                    refine lv_iconst (v := 5) hx hb dX11_count_153 ic_5 ?_
                                    refine lv_iload_n hx hb dX11_count_154 rfl (lv_at hl 1 rfl) ?_
                                    refine lv_iadd hx hb dX11_count_155 ?_
                                    refine lv_bipush (v := 20) hx hb dX11_count_156 bp_20 ?_
                                    refine lv_isub hx hb dX11_count_158 ?_
                                    replace hR := gi_e hR
                                    obtain ⟨i159, hR⟩ := hR
                                    refine va_iald hx hb hK hP 1 0 rfl rfl i159 dX11_count_159 ?_
                                    refine lv_goto (tgt := 164) hx hb dX11_count_160 (by decide) ?_
                                    replace hR := Option.some.inj hR
                                    have e9 := hR
                                    exact W.iret hx hb hr (fun t ht hW => ⟨⟨_, (), rfl, e9, by rw [ht]; exact hP, va_K.moved hW.alike hK, hD⟩, hS.F ht⟩) hS.2.2 dX11_count_164
