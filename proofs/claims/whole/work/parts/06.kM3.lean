set_option maxHeartbeats 8000000 in
set_option maxRecDepth 100000 in
theorem k_X11_help (l : Launch) (dC : Nat → ClassId) (dI : Nat → Nat → Nat) (cs : Nat → ClassId) (ad : Nat → Nat) (b1 : Nat) (sz : Nat) (S1 : T2) (p1 : Int32) (p2 : Int32) (r : Int32) (hR : fX11_help S1 p1 p2 = some r) : Met l yX11_help wsX11_help ({ frames := 3, cells := 0, slots := 0, locals := 67 } : Room) (va_Pc [.ref (ad b1), .int p1, .int p2] (pW dC dI (tyL cs) (fl [(w_X11 ad (b1) cs S1)]) sz)) (QI dC dI (tyL cs) (va_A (fl [(w_X11 ad (b1) cs S1)]) sz) (fl [(w_X11 ad (b1) cs S1)]) r) 0 0 (va_A (fl [(w_X11 ad (b1) cs S1)]) sz) := by
  refine mt_of (own := RX11) (cc := cX11_help) (maxL := 7) (ret := (some .int)) (Qc := fun A => QI dC dI (tyL cs) A (fl [(w_X11 ad (b1) cs S1)]) r) rfl (by decide) rfl (Nat.le_of_ble_eq_true rfl) (fun p e s m below meth c A ls hsz hx hb hr hts hown hlocks hml hA hK hP hD hS hl => ?_)
  subst hsz
  have hl : lv_has ls 7 [(0, .ref (ad b1)), (1, .int p1), (2, .int p2)] := hl
  refine lv_aload_n hx hb dX11_help_0 rfl (lv_at hl 0 rfl) ?_
  refine lv_iload_n hx hb dX11_help_1 rfl (lv_at hl 1 rfl) ?_
  replace hR := bd_e hR
  obtain ⟨q2, gq2, hR⟩ := hR
  refine cl_Vi (As := [.int p1]) (rest := []) (L := [(w_X11 ad (b1) cs S1)]) (L' := [(w_X11 ad (b1) cs S1)]) (Wc := [(w_X11 ad (b1) cs S1)]) (Wc' := [(w_X11 ad (b1) cs S1)]) (is := [0]) (js := []) ⟨hx, hb, hml, hown, hts⟩ (k_X11_docked l dC dI cs ad (b1) s.heap.size S1 p1 q2 gq2) (cwV 1 hts gX11_help_X11_docked rfl rfl rfl cd_X11_docked ⟨Nat.le_of_ble_eq_true rfl, Nat.le_of_ble_eq_true rfl⟩) hK hP hD hS hA ⟨rfl, rfl, rfl, rfl, rfl, rfl⟩ (jn_nd (is := [0]) hD rfl rfl) 0 9 rfl rfl rfl rfl rfl hl.1 (Nat.le_of_ble_eq_true rfl) dX11_help_2 (fun H2 locs2 hP' hD' hS' => ?_)
  replace hS := hS'
  replace hP : va_P (dC, dI) vwCl (fl [(w_X11 ad (b1) cs S1)]) H2 := hP'
  replace hD : va_D A (fl [(w_X11 ad (b1) cs S1)]) := hD'
  clear hP' hD' hS'
  refine lv_istore_n (lv' := [(3, .int q2), (0, .ref (ad b1)), (1, .int p1), (2, .int p2)]) hx hb dX11_help_5 rfl hl (Nat.le_of_ble_eq_true rfl) rfl (fun ls hl => ?_)
  refine lv_aload_n hx hb dX11_help_6 rfl (lv_at hl 1 rfl) ?_
  refine lv_iload_n hx hb dX11_help_7 rfl (lv_at hl 3 rfl) ?_
  replace hR := bd_e hR
  obtain ⟨q8, gq8, hR⟩ := hR
  refine cl_Vi (As := [.int p2]) (rest := []) (L := [(w_X11 ad (b1) cs S1)]) (L' := [(w_X11 ad (b1) cs S1)]) (Wc := [(w_X11 ad (b1) cs S1)]) (Wc' := [(w_X11 ad (b1) cs S1)]) (is := [0]) (js := []) ⟨hx, hb, hml, hown, hts⟩ (k_X11_docked l dC dI cs ad (b1) H2.size S1 p2 q8 gq8) (cwV 1 hts gX11_help_X11_docked rfl rfl rfl cd_X11_docked ⟨Nat.le_of_ble_eq_true rfl, Nat.le_of_ble_eq_true rfl⟩) hK hP hD hS hA ⟨rfl, rfl, rfl, rfl, rfl, rfl⟩ (jn_nd (is := [0]) hD rfl rfl) 0 9 rfl rfl rfl rfl rfl hl.1 (Nat.le_of_ble_eq_true rfl) dX11_help_8 (fun H8 locs8 hP' hD' hS' => ?_)
  replace hS := hS'
  replace hP : va_P (dC, dI) vwCl (fl [(w_X11 ad (b1) cs S1)]) H8 := hP'
  replace hD : va_D A (fl [(w_X11 ad (b1) cs S1)]) := hD'
  clear hP' hD' hS'
  refine lv_istore (lv' := [(4, .int q8), (3, .int q2), (0, .ref (ad b1)), (1, .int p1), (2, .int p2)]) hx hb dX11_help_11 hl (Nat.le_of_ble_eq_true rfl) rfl (fun ls hl => ?_)
  refine lv_aload_n hx hb dX11_help_13 rfl (lv_at hl 2 rfl) ?_
  refine lv_iload_n hx hb dX11_help_14 rfl (lv_at hl 3 rfl) ?_
  refine lv_iconst (v := 1) hx hb dX11_help_15 ic_1 ?_
  replace hR := bd_e hR
  obtain ⟨q16, gq16, hR⟩ := hR
  refine cl_Vi (As := [.int p1, .int (1 : Int32)]) (rest := []) (L := [(w_X11 ad (b1) cs S1)]) (L' := [(w_X11 ad (b1) cs S1)]) (Wc := [(w_X11 ad (b1) cs S1)]) (Wc' := [(w_X11 ad (b1) cs S1)]) (is := [0]) (js := []) ⟨hx, hb, hml, hown, hts⟩ (k_X11_ofStation l dC dI cs ad (b1) H8.size S1 p1 (1 : Int32) q16 gq16) (cwV 2 hts gX11_help_X11_ofStation rfl rfl rfl cd_X11_ofStation ⟨Nat.le_of_ble_eq_true rfl, Nat.le_of_ble_eq_true rfl⟩) hK hP hD hS hA ⟨rfl, rfl, rfl, rfl, rfl, rfl⟩ (jn_nd (is := [0]) hD rfl rfl) 0 9 rfl rfl rfl rfl rfl hl.1 (Nat.le_of_ble_eq_true rfl) dX11_help_16 (fun H16 locs16 hP' hD' hS' => ?_)
  replace hS := hS'
  replace hP : va_P (dC, dI) vwCl (fl [(w_X11 ad (b1) cs S1)]) H16 := hP'
  replace hD : va_D A (fl [(w_X11 ad (b1) cs S1)]) := hD'
  clear hP' hD' hS'
  refine lv_istore (lv' := [(5, .int q16), (4, .int q8), (3, .int q2), (0, .ref (ad b1)), (1, .int p1), (2, .int p2)]) hx hb dX11_help_19 hl (Nat.le_of_ble_eq_true rfl) rfl (fun ls hl => ?_)
  refine lv_aload_n hx hb dX11_help_21 rfl (lv_at hl 3 rfl) ?_
  refine lv_iload_n hx hb dX11_help_22 rfl (lv_at hl 5 rfl) ?_
  refine lv_iconst (v := 1) hx hb dX11_help_23 ic_1 ?_
  replace hR := bd_e hR
  obtain ⟨q24, gq24, hR⟩ := hR
  refine cl_Vi (As := [.int p2, .int (1 : Int32)]) (rest := []) (L := [(w_X11 ad (b1) cs S1)]) (L' := [(w_X11 ad (b1) cs S1)]) (Wc := [(w_X11 ad (b1) cs S1)]) (Wc' := [(w_X11 ad (b1) cs S1)]) (is := [0]) (js := []) ⟨hx, hb, hml, hown, hts⟩ (k_X11_ofStation l dC dI cs ad (b1) H16.size S1 p2 (1 : Int32) q24 gq24) (cwV 2 hts gX11_help_X11_ofStation rfl rfl rfl cd_X11_ofStation ⟨Nat.le_of_ble_eq_true rfl, Nat.le_of_ble_eq_true rfl⟩) hK hP hD hS hA ⟨rfl, rfl, rfl, rfl, rfl, rfl⟩ (jn_nd (is := [0]) hD rfl rfl) 0 9 rfl rfl rfl rfl rfl hl.1 (Nat.le_of_ble_eq_true rfl) dX11_help_24 (fun H24 locs24 hP' hD' hS' => ?_)
  replace hS := hS'
  replace hP : va_P (dC, dI) vwCl (fl [(w_X11 ad (b1) cs S1)]) H24 := hP'
  replace hD : va_D A (fl [(w_X11 ad (b1) cs S1)]) := hD'
  clear hP' hD' hS'
  refine lv_istore (lv' := [(6, .int q24), (5, .int q16), (4, .int q8), (3, .int q2), (0, .ref (ad b1)), (1, .int p1), (2, .int p2)]) hx hb dX11_help_27 hl (Nat.le_of_ble_eq_true rfl) rfl (fun ls hl => ?_)
  refine lv_iload_n hx hb dX11_help_29 rfl (lv_at hl 5 rfl) ?_
  refine lv_iload_n hx hb dX11_help_30 rfl (lv_at hl 6 rfl) ?_
  refine lv_icmp_eq (tgt := 45) hx hb dX11_help_31 (by decide) (fun c31 => ?_) (fun c31 => ?_)
  · replace hR := it_t hR c31
    refine lv_sipush (v := (-1000)) hx hb dX11_help_45 sp_m1000 ?_
    replace hR := Option.some.inj hR
    have e9 := hR
    exact W.iret hx hb hr (fun t ht hW => ⟨⟨_, (), rfl, e9, by rw [ht]; exact hP, va_K.moved hW.alike hK, hD⟩, hS.F ht⟩) hS.2.2 dX11_help_48
  · replace hR := it_f hR c31
    refine lv_iload_n hx hb dX11_help_34 rfl (lv_at hl 3 rfl) ?_
    refine lv_if_eq (tgt := 45) hx hb dX11_help_35 (by decide) (fun c35 => ?_) (fun c35 => ?_)
    · replace hR := it_t hR c35
      refine lv_sipush (v := (-1000)) hx hb dX11_help_45 sp_m1000 ?_
      replace hR := Option.some.inj hR
      have e9 := hR
      exact W.iret hx hb hr (fun t ht hW => ⟨⟨_, (), rfl, e9, by rw [ht]; exact hP, va_K.moved hW.alike hK, hD⟩, hS.F ht⟩) hS.2.2 dX11_help_48
    · replace hR := it_f hR c35
      refine lv_iload hx hb dX11_help_38 (lv_at hl 2 rfl) ?_
      refine lv_iload hx hb dX11_help_40 (lv_at hl 0 rfl) ?_
      refine lv_icmp_ne (tgt := 49) hx hb dX11_help_42 (by decide) (fun c42 => ?_) (fun c42 => ?_)
      · replace hR := it_f hR c42
        refine lv_iload_n hx hb dX11_help_49 rfl (lv_at hl 3 rfl) ?_
        refine lv_iload hx hb dX11_help_50 (lv_at hl 1 rfl) ?_
        replace hR := bd_e hR
        obtain ⟨q52, gq52, hR⟩ := hR
        refine cl_Si (As := [.int q2, .int q16]) (rest := []) (L := [(w_X11 ad (b1) cs S1)]) (L' := [(w_X11 ad (b1) cs S1)]) (Wc := []) (Wc' := []) (is := []) (js := [0]) ⟨hx, hb, hml, hown, hts⟩ (k_X11_uneven l dC dI cs ad H24.size q2 q16 q52 gq52) (cwS 2 hts gX11_help_X11_uneven rfl rfl rfl cd_X11_uneven ⟨Nat.le_of_ble_eq_true rfl, Nat.le_of_ble_eq_true rfl⟩) hK hP hD hS hA ⟨rfl, rfl, rfl, rfl, rfl, rfl⟩ (jn_nd (is := []) hD rfl rfl) rfl rfl hl.1 (Nat.le_of_ble_eq_true rfl) dX11_help_52 (fun H52 locs52 hP' hD' hS' => ?_)
        replace hS := hS'
        replace hP : va_P (dC, dI) vwCl (fl [(w_X11 ad (b1) cs S1)]) H52 := hP'
        replace hD : va_D A (fl [(w_X11 ad (b1) cs S1)]) := hD'
        clear hP' hD' hS'
        refine lv_iload hx hb dX11_help_55 (lv_at hl 2 rfl) ?_
        refine lv_iload hx hb dX11_help_57 (lv_at hl 0 rfl) ?_
        replace hR := bd_e hR
        obtain ⟨q59, gq59, hR⟩ := hR
        refine cl_Si (As := [.int q8, .int q24]) (rest := [.int q52]) (L := [(w_X11 ad (b1) cs S1)]) (L' := [(w_X11 ad (b1) cs S1)]) (Wc := []) (Wc' := []) (is := []) (js := [0]) ⟨hx, hb, hml, hown, hts⟩ (k_X11_uneven l dC dI cs ad H52.size q8 q24 q59 gq59) (cwS 2 hts gX11_help_X11_uneven rfl rfl rfl cd_X11_uneven ⟨Nat.le_of_ble_eq_true rfl, Nat.le_of_ble_eq_true rfl⟩) hK hP hD hS hA ⟨rfl, rfl, rfl, rfl, rfl, rfl⟩ (jn_nd (is := []) hD rfl rfl) rfl rfl hl.1 (Nat.le_of_ble_eq_true rfl) dX11_help_59 (fun H59 locs59 hP' hD' hS' => ?_)
        replace hS := hS'
        replace hP : va_P (dC, dI) vwCl (fl [(w_X11 ad (b1) cs S1)]) H59 := hP'
        replace hD : va_D A (fl [(w_X11 ad (b1) cs S1)]) := hD'
        clear hP' hD' hS'
        refine lv_iadd hx hb dX11_help_62 ?_
        refine lv_iload_n hx hb dX11_help_63 rfl (lv_at hl 3 rfl) ?_
        refine lv_iconst (v := 1) hx hb dX11_help_64 ic_1 ?_
        refine lv_isub hx hb dX11_help_65 ?_
        refine lv_iload hx hb dX11_help_66 (lv_at hl 1 rfl) ?_
        replace hR := bd_e hR
        obtain ⟨q68, gq68, hR⟩ := hR
        refine cl_Si (As := [.int (q2 - 1), .int q16]) (rest := [.int (q52 + q59)]) (L := [(w_X11 ad (b1) cs S1)]) (L' := [(w_X11 ad (b1) cs S1)]) (Wc := []) (Wc' := []) (is := []) (js := [0]) ⟨hx, hb, hml, hown, hts⟩ (k_X11_uneven l dC dI cs ad H59.size (q2 - 1) q16 q68 gq68) (cwS 2 hts gX11_help_X11_uneven rfl rfl rfl cd_X11_uneven ⟨Nat.le_of_ble_eq_true rfl, Nat.le_of_ble_eq_true rfl⟩) hK hP hD hS hA ⟨rfl, rfl, rfl, rfl, rfl, rfl⟩ (jn_nd (is := []) hD rfl rfl) rfl rfl hl.1 (Nat.le_of_ble_eq_true rfl) dX11_help_68 (fun H68 locs68 hP' hD' hS' => ?_)
        replace hS := hS'
        replace hP : va_P (dC, dI) vwCl (fl [(w_X11 ad (b1) cs S1)]) H68 := hP'
        replace hD : va_D A (fl [(w_X11 ad (b1) cs S1)]) := hD'
        clear hP' hD' hS'
        refine lv_isub hx hb dX11_help_71 ?_
        refine lv_iload hx hb dX11_help_72 (lv_at hl 2 rfl) ?_
        refine lv_iconst (v := 1) hx hb dX11_help_74 ic_1 ?_
        refine lv_iadd hx hb dX11_help_75 ?_
        refine lv_iload hx hb dX11_help_76 (lv_at hl 0 rfl) ?_
        replace hR := bd_e hR
        obtain ⟨q78, gq78, hR⟩ := hR
        refine cl_Si (As := [.int (q8 + 1), .int q24]) (rest := [.int ((q52 + q59) - q68)]) (L := [(w_X11 ad (b1) cs S1)]) (L' := [(w_X11 ad (b1) cs S1)]) (Wc := []) (Wc' := []) (is := []) (js := [0]) ⟨hx, hb, hml, hown, hts⟩ (k_X11_uneven l dC dI cs ad H68.size (q8 + 1) q24 q78 gq78) (cwS 2 hts gX11_help_X11_uneven rfl rfl rfl cd_X11_uneven ⟨Nat.le_of_ble_eq_true rfl, Nat.le_of_ble_eq_true rfl⟩) hK hP hD hS hA ⟨rfl, rfl, rfl, rfl, rfl, rfl⟩ (jn_nd (is := []) hD rfl rfl) rfl rfl hl.1 (Nat.le_of_ble_eq_true rfl) dX11_help_78 (fun H78 locs78 hP' hD' hS' => ?_)
        replace hS := hS'
        replace hP : va_P (dC, dI) vwCl (fl [(w_X11 ad (b1) cs S1)]) H78 := hP'
        replace hD : va_D A (fl [(w_X11 ad (b1) cs S1)]) := hD'
        clear hP' hD' hS'
        refine lv_isub hx hb dX11_help_81 ?_
        replace hR := Option.some.inj hR
        have e9 := hR
        exact W.iret hx hb hr (fun t ht hW => ⟨⟨_, (), rfl, e9, by rw [ht]; exact hP, va_K.moved hW.alike hK, hD⟩, hS.F ht⟩) hS.2.2 dX11_help_82
      · replace hR := it_t hR c42
        refine lv_sipush (v := (-1000)) hx hb dX11_help_45 sp_m1000 ?_
        replace hR := Option.some.inj hR
        have e9 := hR
        exact W.iret hx hb hr (fun t ht hW => ⟨⟨_, (), rfl, e9, by rw [ht]; exact hP, va_K.moved hW.alike hK, hD⟩, hS.F ht⟩) hS.2.2 dX11_help_48
set_option maxHeartbeats 8000000 in
set_option maxRecDepth 100000 in
theorem k_X11_move (l : Launch) (dC : Nat → ClassId) (dI : Nat → Nat → Nat) (cs : Nat → ClassId) (ad : Nat → Nat) (b1 : Nat) (sz : Nat) (S1 : T2) (p1 : Int32) (r : Int32) (hR : fX11_move S1 p1 = some r) : Met l yX11_move wsX11_move ({ frames := 4, cells := 0, slots := 0, locals := 93 } : Room) (va_Pc [.ref (ad b1), .int p1] (pW dC dI (tyL cs) (fl [(w_X11 ad (b1) cs S1)]) sz)) (QI dC dI (tyL cs) (va_A (fl [(w_X11 ad (b1) cs S1)]) sz) (fl [(w_X11 ad (b1) cs S1)]) r) 0 0 (va_A (fl [(w_X11 ad (b1) cs S1)]) sz) := by
  refine mt_of (own := RX11) (cc := cX11_move) (maxL := 10) (ret := (some .int)) (Qc := fun A => QI dC dI (tyL cs) A (fl [(w_X11 ad (b1) cs S1)]) r) rfl (by decide) rfl (Nat.le_of_ble_eq_true rfl) (fun p e s m below meth c A ls hsz hx hb hr hts hown hlocks hml hA hK hP hD hS hl => ?_)
  subst hsz
  have hl : lv_has ls 10 [(0, .ref (ad b1)), (1, .int p1)] := hl
  have hF7 := hts (.fieldLink RX11 7 "DockedBikesModel" "s" "[I") (List.mem_of_getElem? (i := 1) rfl)
  have hinX11 : ∀ w ∈ wsX110, w ∈ wsX11_move := by decide +kernel
  have hB26 : ∀ (n26 : Nat), ∀ (v2_26 : Int32) (v3_26 : Int32) (v4_26 : Int32) (v5_26 : Int32) (v6_26 : Int32) (H : Heap) (locs : List Loc) (ls : Array Slot), fX11_move_26 S1 p1 n26 v2_26 v3_26 v4_26 v5_26 v6_26 = some r → va_P (dC, dI) vwCl (fl [(w_X11 ad (b1) cs S1)]) H → va_D A (fl [(w_X11 ad (b1) cs S1)]) → va_S A s.heap H locs → lv_has ls 10 [(0, .ref (ad b1)), (1, .int p1), (2, .int v2_26), (3, .int v3_26), (4, .int v4_26), (5, .int v5_26), (6, .int v6_26)] → W p l e (headSpec wsX11_move ({ frames := 4, cells := 0, slots := 0, locals := 93 } : Room)).room s m ([.ref (ad b1), .int p1] : List Value).toArray below meth c H locs 0 0 (MQ below (QI dC dI (tyL cs) A (fl [(w_X11 ad (b1) cs S1)]) r) ([.ref (ad b1), .int p1] : List Value).toArray s 0 0 A) (F0 m 26 ls []) := by
    intro n26
    induction n26 with
    | zero =>
      intro v2_26 v3_26 v4_26 v5_26 v6_26 H locs ls hR hP hD hS hl
      exact nn_e hR
    | succ n26 hI26 =>
      have hB40 : ∀ (n40 : Nat), ∀ (v2_40 : Int32) (v3_40 : Int32) (v4_40 : Int32) (v5_40 : Int32) (v6_40 : Int32) (v7_40 : Int32) (H : Heap) (locs : List Loc) (ls : Array Slot), fX11_move_40 (fX11_move_26 S1 p1 n26) S1 p1 n40 v2_40 v3_40 v4_40 v5_40 v6_40 v7_40 = some r → va_P (dC, dI) vwCl (fl [(w_X11 ad (b1) cs S1)]) H → va_D A (fl [(w_X11 ad (b1) cs S1)]) → va_S A s.heap H locs → lv_has ls 10 [(0, .ref (ad b1)), (1, .int p1), (2, .int v2_40), (3, .int v3_40), (4, .int v4_40), (5, .int v5_40), (6, .int v6_40), (7, .int v7_40)] → W p l e (headSpec wsX11_move ({ frames := 4, cells := 0, slots := 0, locals := 93 } : Room)).room s m ([.ref (ad b1), .int p1] : List Value).toArray below meth c H locs 0 0 (MQ below (QI dC dI (tyL cs) A (fl [(w_X11 ad (b1) cs S1)]) r) ([.ref (ad b1), .int p1] : List Value).toArray s 0 0 A) (F0 m 40 ls []) := by
        intro n40
        induction n40 with
        | zero =>
          intro v2_40 v3_40 v4_40 v5_40 v6_40 v7_40 H locs ls hR hP hD hS hl
          exact nn_e hR
        | succ n40 hI40 =>
          have hB111 : ∀ (v2_111 : Int32) (v3_111 : Int32) (v4_111 : Int32) (v5_111 : Int32) (v6_111 : Int32) (v7_111 : Int32) (H : Heap) (locs : List Loc) (ls : Array Slot), fX11_move_111 (fX11_move_26 S1 p1 n26) (fX11_move_40 (fX11_move_26 S1 p1 n26) S1 p1 n40) S1 p1 v2_111 v3_111 v4_111 v5_111 v6_111 v7_111 = some r → va_P (dC, dI) vwCl (fl [(w_X11 ad (b1) cs S1)]) H → va_D A (fl [(w_X11 ad (b1) cs S1)]) → va_S A s.heap H locs → lv_has ls 10 [(0, .ref (ad b1)), (1, .int p1), (2, .int v2_111), (3, .int v3_111), (4, .int v4_111), (5, .int v5_111), (6, .int v6_111), (7, .int v7_111)] → W p l e (headSpec wsX11_move ({ frames := 4, cells := 0, slots := 0, locals := 93 } : Room)).room s m ([.ref (ad b1), .int p1] : List Value).toArray below meth c H locs 0 0 (MQ below (QI dC dI (tyL cs) A (fl [(w_X11 ad (b1) cs S1)]) r) ([.ref (ad b1), .int p1] : List Value).toArray s 0 0 A) (F0 m 111 ls []) := by
            intro v2_111 v3_111 v4_111 v5_111 v6_111 v7_111 H locs ls hR hP hD hS hl
            refine lv_iinc (v := (v7_111 + 1)) (lv' := [(7, .int (v7_111 + 1)), (0, .ref (ad b1)), (1, .int p1), (2, .int v2_111), (3, .int v3_111), (4, .int v4_111), (5, .int v5_111), (6, .int v6_111)]) hx hb dX11_move_111 hl (k := 7) rfl rfl (Nat.le_of_ble_eq_true rfl) rfl (fun ls hl => ?_)
            refine lv_goto (tgt := 40) hx hb dX11_move_114 (by decide) ?_
            exact hI40 v2_111 v3_111 v4_111 v5_111 v6_111 (v7_111 + 1) H _ ls hR hP hD hS (lv_sub hl [1, 2, 3, 4, 5, 6, 7, 0] rfl)
          have hB97 : ∀ (v6_97 : Int32) (v7_97 : Int32) (v8_97 : Int32) (v9_97 : Int32) (H : Heap) (locs : List Loc) (ls : Array Slot), fX11_move_97 (fX11_move_26 S1 p1 n26) (fX11_move_40 (fX11_move_26 S1 p1 n26) S1 p1 n40) S1 p1 v6_97 v7_97 v8_97 v9_97 = some r → va_P (dC, dI) vwCl (fl [(w_X11 ad (b1) cs S1)]) H → va_D A (fl [(w_X11 ad (b1) cs S1)]) → va_S A s.heap H locs → lv_has ls 10 [(0, .ref (ad b1)), (1, .int p1), (6, .int v6_97), (7, .int v7_97), (8, .int v8_97), (9, .int v9_97)] → W p l e (headSpec wsX11_move ({ frames := 4, cells := 0, slots := 0, locals := 93 } : Room)).room s m ([.ref (ad b1), .int p1] : List Value).toArray below meth c H locs 0 0 (MQ below (QI dC dI (tyL cs) A (fl [(w_X11 ad (b1) cs S1)]) r) ([.ref (ad b1), .int p1] : List Value).toArray s 0 0 A) (F0 m 97 ls []) := by
            intro v6_97 v7_97 v8_97 v9_97 H locs ls hR hP hD hS hl
            refine lv_iload hx hb dX11_move_97 (lv_at hl 2 rfl) ?_
            refine lv_istore_n (lv' := [(2, .int v6_97), (0, .ref (ad b1)), (1, .int p1), (6, .int v6_97), (7, .int v7_97), (8, .int v8_97), (9, .int v9_97)]) hx hb dX11_move_99 rfl hl (Nat.le_of_ble_eq_true rfl) rfl (fun ls hl => ?_)
            refine lv_iload hx hb dX11_move_100 (lv_at hl 4 rfl) ?_
            refine lv_istore_n (lv' := [(3, .int v7_97), (2, .int v6_97), (0, .ref (ad b1)), (1, .int p1), (6, .int v6_97), (7, .int v7_97), (8, .int v8_97), (9, .int v9_97)]) hx hb dX11_move_102 rfl hl (Nat.le_of_ble_eq_true rfl) rfl (fun ls hl => ?_)
            refine lv_iload hx hb dX11_move_103 (lv_at hl 6 rfl) ?_
            refine lv_istore (lv' := [(4, .int v8_97), (3, .int v7_97), (2, .int v6_97), (0, .ref (ad b1)), (1, .int p1), (6, .int v6_97), (7, .int v7_97), (8, .int v8_97), (9, .int v9_97)]) hx hb dX11_move_105 hl (Nat.le_of_ble_eq_true rfl) rfl (fun ls hl => ?_)
            refine lv_iload hx hb dX11_move_107 (lv_at hl 8 rfl) ?_
            refine lv_istore (lv' := [(5, .int v9_97), (4, .int v8_97), (3, .int v7_97), (2, .int v6_97), (0, .ref (ad b1)), (1, .int p1), (6, .int v6_97), (7, .int v7_97), (8, .int v8_97), (9, .int v9_97)]) hx hb dX11_move_109 hl (Nat.le_of_ble_eq_true rfl) rfl (fun ls hl => ?_)
            exact hB111 v6_97 v7_97 v8_97 v9_97 v6_97 v7_97 H _ ls hR hP hD hS (lv_sub hl [4, 5, 3, 2, 1, 0, 6, 7] rfl)
          intro v2_40 v3_40 v4_40 v5_40 v6_40 v7_40 H locs ls hR hP hD hS hl
          rw [fX11_move_40] at hR
          refine lv_iload hx hb dX11_move_40 (lv_at hl 7 rfl) ?_
          refine lv_aload_n hx hb dX11_move_42 rfl (lv_at hl 0 rfl) ?_
          refine va_get (D := (dC, dI)) (ci := 9) (v := .ref (ad (b1 + 1))) (C := RX11) (T := TX11) (N := 14) hx hb hts hinX11 hown hK hP 0 rfl rfl 0 (by decide) hF7 (fun _ h9 => h9) rfl dX11_move_43 ?_
          refine lv_iconst (v := 0) hx hb dX11_move_46 ic_0 ?_
          refine va_iald hx hb hK hP 1 0 rfl rfl vi_0_206 dX11_move_47 ?_
          refine lv_icmp_ge (tgt := 117) hx hb dX11_move_48 (by decide) (fun c48 => ?_) (fun c48 => ?_)
          · replace hR := it_t hR c48
            refine lv_iinc (v := (v6_40 + 1)) (lv' := [(6, .int (v6_40 + 1)), (0, .ref (ad b1)), (1, .int p1), (2, .int v2_40), (3, .int v3_40), (4, .int v4_40), (5, .int v5_40), (7, .int v7_40)]) hx hb dX11_move_117 hl (k := 6) rfl rfl (Nat.le_of_ble_eq_true rfl) rfl (fun ls hl => ?_)
            refine lv_goto (tgt := 26) hx hb dX11_move_120 (by decide) ?_
            exact hI26 v2_40 v3_40 v4_40 v5_40 (v6_40 + 1) H _ ls hR hP hD hS (lv_sub hl [1, 2, 3, 4, 5, 6, 0] rfl)
          · replace hR := it_f hR c48
            refine lv_aload_n hx hb dX11_move_51 rfl (lv_at hl 0 rfl) ?_
            refine lv_iload hx hb dX11_move_52 (lv_at hl 6 rfl) ?_
            refine lv_iload hx hb dX11_move_54 (lv_at hl 7 rfl) ?_
            replace hR := bd_e hR
            obtain ⟨q56, gq56, hR⟩ := hR
            refine cl_Vi (As := [.int v6_40, .int v7_40]) (rest := []) (L := [(w_X11 ad (b1) cs S1)]) (L' := [(w_X11 ad (b1) cs S1)]) (Wc := [(w_X11 ad (b1) cs S1)]) (Wc' := [(w_X11 ad (b1) cs S1)]) (is := [0]) (js := []) ⟨hx, hb, hml, hown, hts⟩ (k_X11_help l dC dI cs ad (b1) H.size S1 v6_40 v7_40 q56 gq56) (cwV 2 hts gX11_move_X11_help rfl rfl rfl cd_X11_help ⟨Nat.le_of_ble_eq_true rfl, Nat.le_of_ble_eq_true rfl⟩) hK hP hD hS hA ⟨rfl, rfl, rfl, rfl, rfl, rfl⟩ (jn_nd (is := [0]) hD rfl rfl) 0 9 rfl rfl rfl rfl rfl hl.1 (Nat.le_of_ble_eq_true rfl) dX11_move_56 (fun H56 locs56 hP' hD' hS' => ?_)
            replace hS := hS'
            replace hP : va_P (dC, dI) vwCl (fl [(w_X11 ad (b1) cs S1)]) H56 := hP'
            replace hD : va_D A (fl [(w_X11 ad (b1) cs S1)]) := hD'
            clear hP' hD' hS'
            refine lv_istore (lv' := [(8, .int q56), (0, .ref (ad b1)), (1, .int p1), (2, .int v2_40), (3, .int v3_40), (4, .int v4_40), (5, .int v5_40), (6, .int v6_40), (7, .int v7_40)]) hx hb dX11_move_59 hl (Nat.le_of_ble_eq_true rfl) rfl (fun ls hl => ?_)
            refine lv_aload_n hx hb dX11_move_61 rfl (lv_at hl 1 rfl) ?_
            refine lv_iload hx hb dX11_move_62 (lv_at hl 7 rfl) ?_
            refine lv_iload hx hb dX11_move_64 (lv_at hl 8 rfl) ?_
            replace hR := bd_e hR
            obtain ⟨q66, gq66, hR⟩ := hR
            refine cl_Vi (As := [.int v6_40, .int v7_40]) (rest := []) (L := [(w_X11 ad (b1) cs S1)]) (L' := [(w_X11 ad (b1) cs S1)]) (Wc := [(w_X11 ad (b1) cs S1)]) (Wc' := [(w_X11 ad (b1) cs S1)]) (is := [0]) (js := []) ⟨hx, hb, hml, hown, hts⟩ (k_X11_way l dC dI cs ad (b1) H56.size S1 v6_40 v7_40 q66 gq66) (cwV 2 hts gX11_move_X11_way rfl rfl rfl cd_X11_way ⟨Nat.le_of_ble_eq_true rfl, Nat.le_of_ble_eq_true rfl⟩) hK hP hD hS hA ⟨rfl, rfl, rfl, rfl, rfl, rfl⟩ (jn_nd (is := [0]) hD rfl rfl) 0 9 rfl rfl rfl rfl rfl hl.1 (Nat.le_of_ble_eq_true rfl) dX11_move_66 (fun H66 locs66 hP' hD' hS' => ?_)
            replace hS := hS'
            replace hP : va_P (dC, dI) vwCl (fl [(w_X11 ad (b1) cs S1)]) H66 := hP'
            replace hD : va_D A (fl [(w_X11 ad (b1) cs S1)]) := hD'
            clear hP' hD' hS'
            refine lv_istore (lv' := [(9, .int q66), (8, .int q56), (0, .ref (ad b1)), (1, .int p1), (2, .int v2_40), (3, .int v3_40), (4, .int v4_40), (5, .int v5_40), (6, .int v6_40), (7, .int v7_40)]) hx hb dX11_move_69 hl (Nat.le_of_ble_eq_true rfl) rfl (fun ls hl => ?_)
            refine lv_iload hx hb dX11_move_71 (lv_at hl 1 rfl) ?_
            refine lv_iload hx hb dX11_move_73 (lv_at hl 6 rfl) ?_
            refine lv_icmp_gt (tgt := 97) hx hb dX11_move_75 (by decide) (fun c75 => ?_) (fun c75 => ?_)
            · replace hR := it_t hR c75
              exact hB97 v6_40 v7_40 q56 q66 H66 _ ls hR hP hD hS (lv_sub hl [2, 3, 8, 9, 1, 0] rfl)
            · replace hR := it_f hR c75
              refine lv_iload hx hb dX11_move_78 (lv_at hl 1 rfl) ?_
              refine lv_iload hx hb dX11_move_80 (lv_at hl 6 rfl) ?_
              refine lv_icmp_ne (tgt := 111) hx hb dX11_move_82 (by decide) (fun c82 => ?_) (fun c82 => ?_)
              · replace hR := it_f hR c82
                exact hB111 v2_40 v3_40 v4_40 v5_40 v6_40 v7_40 H66 _ ls hR hP hD hS (lv_sub hl [2, 3, 4, 5, 6, 7, 8, 9] rfl)
              · replace hR := it_t hR c82
                refine lv_iload hx hb dX11_move_85 (lv_at hl 6 rfl) ?_
                refine lv_if_le (tgt := 111) hx hb dX11_move_87 (by decide) (fun c87 => ?_) (fun c87 => ?_)
                · replace hR := it_t hR c87
                  exact hB111 v2_40 v3_40 v4_40 v5_40 v6_40 v7_40 H66 _ ls hR hP hD hS (lv_sub hl [2, 3, 4, 5, 6, 7, 8, 9] rfl)
                · replace hR := it_f hR c87
                  refine lv_iload hx hb dX11_move_90 (lv_at hl 0 rfl) ?_
                  refine lv_iload hx hb dX11_move_92 (lv_at hl 7 rfl) ?_
                  refine lv_icmp_ge (tgt := 111) hx hb dX11_move_94 (by decide) (fun c94 => ?_) (fun c94 => ?_)
                  · replace hR := it_t hR c94
                    exact hB111 v2_40 v3_40 v4_40 v5_40 v6_40 v7_40 H66 _ ls hR hP hD hS (lv_sub hl [2, 3, 4, 5, 6, 7, 8, 9] rfl)
                  · replace hR := it_f hR c94
                    exact hB97 v6_40 v7_40 q56 q66 H66 _ ls hR hP hD hS (lv_sub hl [2, 3, 8, 9, 1, 0] rfl)
      intro v2_26 v3_26 v4_26 v5_26 v6_26 H locs ls hR hP hD hS hl
      rw [fX11_move_26] at hR
      refine lv_iload hx hb dX11_move_26 (lv_at hl 6 rfl) ?_
      refine lv_aload_n hx hb dX11_move_28 rfl (lv_at hl 0 rfl) ?_
      refine va_get (D := (dC, dI)) (ci := 9) (v := .ref (ad (b1 + 1))) (C := RX11) (T := TX11) (N := 14) hx hb hts hinX11 hown hK hP 0 rfl rfl 0 (by decide) hF7 (fun _ h9 => h9) rfl dX11_move_29 ?_
      refine lv_iconst (v := 0) hx hb dX11_move_32 ic_0 ?_
      refine va_iald hx hb hK hP 1 0 rfl rfl vi_0_206 dX11_move_33 ?_
      refine lv_icmp_ge (tgt := 123) hx hb dX11_move_34 (by decide) (fun c34 => ?_) (fun c34 => ?_)
      · replace hR := it_t hR c34
        refine lv_iload hx hb dX11_move_123 (lv_at hl 4 rfl) ?_
        refine lv_if_ne (tgt := 133) hx hb dX11_move_125 (by decide) (fun c125 => ?_) (fun c125 => ?_)
        · replace hR := it_f hR c125
          refine lv_iload_n hx hb dX11_move_133 rfl (lv_at hl 1 rfl) ?_
          refine lv_if_ne (tgt := 141) hx hb dX11_move_134 (by decide) (fun c134 => ?_) (fun c134 => ?_)
          · replace hR := it_f hR c134
            refine lv_iload_n hx hb dX11_move_141 rfl (lv_at hl 1 rfl) ?_
            refine lv_iconst (v := 1) hx hb dX11_move_142 ic_1 ?_
            refine lv_icmp_ne (tgt := 150) hx hb dX11_move_143 (by decide) (fun c143 => ?_) (fun c143 => ?_)
            · replace hR := it_f hR c143
              refine lv_iload hx hb dX11_move_150 (lv_at hl 4 rfl) ?_
              replace hR := Option.some.inj hR
              have e9 := hR
              exact W.iret hx hb hr (fun t ht hW => ⟨⟨_, (), rfl, e9, by rw [ht]; exact hP, va_K.moved hW.alike hK, hD⟩, hS.F ht⟩) hS.2.2 dX11_move_152
            · replace hR := it_t hR c143
              refine lv_iload_n hx hb dX11_move_146 rfl (lv_at hl 3 rfl) ?_
              refine lv_goto (tgt := 152) hx hb dX11_move_147 (by decide) ?_
              replace hR := Option.some.inj hR
              have e9 := hR
              exact W.iret hx hb hr (fun t ht hW => ⟨⟨_, (), rfl, e9, by rw [ht]; exact hP, va_K.moved hW.alike hK, hD⟩, hS.F ht⟩) hS.2.2 dX11_move_152
          · replace hR := it_t hR c134
            refine lv_iload_n hx hb dX11_move_137 rfl (lv_at hl 2 rfl) ?_
            refine lv_goto (tgt := 152) hx hb dX11_move_138 (by decide) ?_
            replace hR := Option.some.inj hR
            have e9 := hR
            exact W.iret hx hb hr (fun t ht hW => ⟨⟨_, (), rfl, e9, by rw [ht]; exact hP, va_K.moved hW.alike hK, hD⟩, hS.F ht⟩) hS.2.2 dX11_move_152
        · replace hR := it_t hR c125
          refine lv_bipush (v := (-4)) hx hb dX11_move_128 bp_m4 ?_
          refine lv_goto (tgt := 152) hx hb dX11_move_130 (by decide) ?_
          replace hR := Option.some.inj hR
          have e9 := hR
          exact W.iret hx hb hr (fun t ht hW => ⟨⟨_, (), rfl, e9, by rw [ht]; exact hP, va_K.moved hW.alike hK, hD⟩, hS.F ht⟩) hS.2.2 dX11_move_152
      · replace hR := it_f hR c34
        refine lv_iconst (v := 0) hx hb dX11_move_37 ic_0 ?_
        refine lv_istore (lv' := [(7, .int (0 : Int32)), (0, .ref (ad b1)), (1, .int p1), (2, .int v2_26), (3, .int v3_26), (4, .int v4_26), (5, .int v5_26), (6, .int v6_26)]) hx hb dX11_move_38 hl (Nat.le_of_ble_eq_true rfl) rfl (fun ls hl => ?_)
        exact hB40 fuel v2_26 v3_26 v4_26 v5_26 v6_26 (0 : Int32) H _ ls hR hP hD hS (lv_sub hl [1, 2, 3, 4, 5, 6, 7, 0] rfl)
  refine lv_iload_n hx hb dX11_move_0 rfl (lv_at hl 1 rfl) ?_
  refine lv_iconst (v := 0) hx hb dX11_move_1 ic_0 ?_
  refine lv_iconst (v := 2) hx hb dX11_move_2 ic_2 ?_
  replace hR := bd_e hR
  obtain ⟨q3, gq3, hR⟩ := hR
  refine cl_Si (As := [.int p1, .int (0 : Int32), .int (2 : Int32)]) (rest := []) (L := [(w_X11 ad (b1) cs S1)]) (L' := [(w_X11 ad (b1) cs S1)]) (Wc := []) (Wc' := []) (is := []) (js := [0]) ⟨hx, hb, hml, hown, hts⟩ (k_X11_in l dC dI cs ad s.heap.size p1 (0 : Int32) (2 : Int32) q3 gq3) (cwS 3 hts gX11_move_X11_in rfl rfl rfl cd_X11_in ⟨Nat.le_of_ble_eq_true rfl, Nat.le_of_ble_eq_true rfl⟩) hK hP hD hS hA ⟨rfl, rfl, rfl, rfl, rfl, rfl⟩ (jn_nd (is := []) hD rfl rfl) rfl rfl hl.1 (Nat.le_of_ble_eq_true rfl) dX11_move_3 (fun H3 locs3 hP' hD' hS' => ?_)
  replace hS := hS'
  replace hP : va_P (dC, dI) vwCl (fl [(w_X11 ad (b1) cs S1)]) H3 := hP'
  replace hD : va_D A (fl [(w_X11 ad (b1) cs S1)]) := hD'
  clear hP' hD' hS'
  refine lv_if_ne (tgt := 11) hx hb dX11_move_6 (by decide) (fun c6 => ?_) (fun c6 => ?_)
  · replace hR := it_f hR c6
    refine lv_bipush (v := (-4)) hx hb dX11_move_11 bp_m4 ?_
    refine lv_istore_n (lv' := [(2, .int (-4)), (0, .ref (ad b1)), (1, .int p1)]) hx hb dX11_move_13 rfl hl (Nat.le_of_ble_eq_true rfl) rfl (fun ls hl => ?_)
    refine lv_bipush (v := (-4)) hx hb dX11_move_14 bp_m4 ?_
    refine lv_istore_n (lv' := [(3, .int (-4)), (2, .int (-4)), (0, .ref (ad b1)), (1, .int p1)]) hx hb dX11_move_16 rfl hl (Nat.le_of_ble_eq_true rfl) rfl (fun ls hl => ?_)
    refine lv_iconst (v := 0) hx hb dX11_move_17 ic_0 ?_
    refine lv_istore (lv' := [(4, .int (0 : Int32)), (3, .int (-4)), (2, .int (-4)), (0, .ref (ad b1)), (1, .int p1)]) hx hb dX11_move_18 hl (Nat.le_of_ble_eq_true rfl) rfl (fun ls hl => ?_)
    refine lv_iconst (v := 0) hx hb dX11_move_20 ic_0 ?_
    refine lv_istore (lv' := [(5, .int (0 : Int32)), (4, .int (0 : Int32)), (3, .int (-4)), (2, .int (-4)), (0, .ref (ad b1)), (1, .int p1)]) hx hb dX11_move_21 hl (Nat.le_of_ble_eq_true rfl) rfl (fun ls hl => ?_)
    refine lv_iconst (v := 0) hx hb dX11_move_23 ic_0 ?_
    refine lv_istore (lv' := [(6, .int (0 : Int32)), (5, .int (0 : Int32)), (4, .int (0 : Int32)), (3, .int (-4)), (2, .int (-4)), (0, .ref (ad b1)), (1, .int p1)]) hx hb dX11_move_24 hl (Nat.le_of_ble_eq_true rfl) rfl (fun ls hl => ?_)
    exact hB26 fuel (-4) (-4) (0 : Int32) (0 : Int32) (0 : Int32) H3 _ ls hR hP hD hS (lv_sub hl [5, 6, 4, 3, 2, 1, 0] rfl)
  · replace hR := it_t hR c6
    refine lv_iconst (v := (-1)) hx hb dX11_move_9 ic_m1 ?_
    replace hR := Option.some.inj hR
    have e9 := hR
    exact W.iret hx hb hr (fun t ht hW => ⟨⟨_, (), rfl, e9, by rw [ht]; exact hP, va_K.moved hW.alike hK, hD⟩, hS.F ht⟩) hS.2.2 dX11_move_10
set_option maxHeartbeats 8000000 in
set_option maxRecDepth 100000 in
theorem k_X11_evening (l : Launch) (dC : Nat → ClassId) (dI : Nat → Nat → Nat) (cs : Nat → ClassId) (ad : Nat → Nat) (b1 : Nat) (sz : Nat) (S1 : T2) (r : Int32) (hR : fX11_evening S1 = some r) : Met l yX11_evening wsX11_evening ({ frames := 3, cells := 0, slots := 0, locals := 70 } : Room) (va_Pc [.ref (ad b1)] (pW dC dI (tyL cs) (fl [(w_X11 ad (b1) cs S1)]) sz)) (QI dC dI (tyL cs) (va_A (fl [(w_X11 ad (b1) cs S1)]) sz) (fl [(w_X11 ad (b1) cs S1)]) r) 0 0 (va_A (fl [(w_X11 ad (b1) cs S1)]) sz) := by
  refine mt_of (own := RX11) (cc := cX11_evening) (maxL := 5) (ret := (some .int)) (Qc := fun A => QI dC dI (tyL cs) A (fl [(w_X11 ad (b1) cs S1)]) r) rfl (by decide) rfl (Nat.le_of_ble_eq_true rfl) (fun p e s m below meth c A ls hsz hx hb hr hts hown hlocks hml hA hK hP hD hS hl => ?_)
  subst hsz
  have hl : lv_has ls 5 [(0, .ref (ad b1))] := hl
  have hF7 := hts (.fieldLink RX11 7 "DockedBikesModel" "s" "[I") (List.mem_of_getElem? (i := 1) rfl)
  have hinX11 : ∀ w ∈ wsX110, w ∈ wsX11_evening := by decide +kernel
  have hB16 : ∀ (n16 : Nat), ∀ (v1_16 : Int32) (v2_16 : Int32) (H : Heap) (locs : List Loc) (ls : Array Slot), fX11_evening_16 S1 n16 v1_16 v2_16 = some r → va_P (dC, dI) vwCl (fl [(w_X11 ad (b1) cs S1)]) H → va_D A (fl [(w_X11 ad (b1) cs S1)]) → va_S A s.heap H locs → lv_has ls 5 [(0, .ref (ad b1)), (1, .int v1_16), (2, .int v2_16)] → W p l e (headSpec wsX11_evening ({ frames := 3, cells := 0, slots := 0, locals := 70 } : Room)).room s m ([.ref (ad b1)] : List Value).toArray below meth c H locs 0 0 (MQ below (QI dC dI (tyL cs) A (fl [(w_X11 ad (b1) cs S1)]) r) ([.ref (ad b1)] : List Value).toArray s 0 0 A) (F0 m 16 ls []) := by
    intro n16
    induction n16 with
    | zero =>
      intro v1_16 v2_16 H locs ls hR hP hD hS hl
      exact nn_e hR
    | succ n16 hI16 =>
      have hB86 : ∀ (v2_86 : Int32) (t0_86 : Int32) (t1_86 : Int32) (H : Heap) (locs : List Loc) (ls : Array Slot), fX11_evening_86 (fX11_evening_16 S1 n16) S1 v2_86 t0_86 t1_86 = some r → va_P (dC, dI) vwCl (fl [(w_X11 ad (b1) cs S1)]) H → va_D A (fl [(w_X11 ad (b1) cs S1)]) → va_S A s.heap H locs → lv_has ls 5 [(0, .ref (ad b1)), (2, .int v2_86)] → W p l e (headSpec wsX11_evening ({ frames := 3, cells := 0, slots := 0, locals := 70 } : Room)).room s m ([.ref (ad b1)] : List Value).toArray below meth c H locs 0 0 (MQ below (QI dC dI (tyL cs) A (fl [(w_X11 ad (b1) cs S1)]) r) ([.ref (ad b1)] : List Value).toArray s 0 0 A) (F0 m 86 ls [.int t1_86, .int t0_86]) := by
        intro v2_86 t0_86 t1_86 H locs ls hR hP hD hS hl
        refine lv_iadd hx hb dX11_evening_86 ?_
        refine lv_istore_n (lv' := [(1, .int (t0_86 + t1_86)), (0, .ref (ad b1)), (2, .int v2_86)]) hx hb dX11_evening_87 rfl hl (Nat.le_of_ble_eq_true rfl) rfl (fun ls hl => ?_)
        refine lv_iinc (v := (v2_86 + 1)) (lv' := [(2, .int (v2_86 + 1)), (1, .int (t0_86 + t1_86)), (0, .ref (ad b1))]) hx hb dX11_evening_88 hl (k := 2) rfl rfl (Nat.le_of_ble_eq_true rfl) rfl (fun ls hl => ?_)
        refine lv_goto (tgt := 16) hx hb dX11_evening_91 (by decide) ?_
        exact hI16 (t0_86 + t1_86) (v2_86 + 1) H _ ls hR hP hD hS (lv_sub hl [2, 1, 0] rfl)
      have hB27 : ∀ (n27 : Nat), ∀ (v1_27 : Int32) (v2_27 : Int32) (v3_27 : Int32) (v4_27 : Int32) (H : Heap) (locs : List Loc) (ls : Array Slot), fX11_evening_27 (fX11_evening_16 S1 n16) S1 n27 v1_27 v2_27 v3_27 v4_27 = some r → va_P (dC, dI) vwCl (fl [(w_X11 ad (b1) cs S1)]) H → va_D A (fl [(w_X11 ad (b1) cs S1)]) → va_S A s.heap H locs → lv_has ls 5 [(0, .ref (ad b1)), (1, .int v1_27), (2, .int v2_27), (3, .int v3_27), (4, .int v4_27)] → W p l e (headSpec wsX11_evening ({ frames := 3, cells := 0, slots := 0, locals := 70 } : Room)).room s m ([.ref (ad b1)] : List Value).toArray below meth c H locs 0 0 (MQ below (QI dC dI (tyL cs) A (fl [(w_X11 ad (b1) cs S1)]) r) ([.ref (ad b1)] : List Value).toArray s 0 0 A) (F0 m 27 ls []) := by
        intro n27
        induction n27 with
        | zero =>
          intro v1_27 v2_27 v3_27 v4_27 H locs ls hR hP hD hS hl
          exact nn_e hR
        | succ n27 hI27 =>
          have hB67 : ∀ (v1_67 : Int32) (v2_67 : Int32) (v4_67 : Int32) (t0_67 : Int32) (t1_67 : Int32) (H : Heap) (locs : List Loc) (ls : Array Slot), fX11_evening_67 (fX11_evening_16 S1 n16) (fX11_evening_27 (fX11_evening_16 S1 n16) S1 n27) S1 v1_67 v2_67 v4_67 t0_67 t1_67 = some r → va_P (dC, dI) vwCl (fl [(w_X11 ad (b1) cs S1)]) H → va_D A (fl [(w_X11 ad (b1) cs S1)]) → va_S A s.heap H locs → lv_has ls 5 [(0, .ref (ad b1)), (1, .int v1_67), (2, .int v2_67), (4, .int v4_67)] → W p l e (headSpec wsX11_evening ({ frames := 3, cells := 0, slots := 0, locals := 70 } : Room)).room s m ([.ref (ad b1)] : List Value).toArray below meth c H locs 0 0 (MQ below (QI dC dI (tyL cs) A (fl [(w_X11 ad (b1) cs S1)]) r) ([.ref (ad b1)] : List Value).toArray s 0 0 A) (F0 m 67 ls [.int t1_67, .int t0_67]) := by
            intro v1_67 v2_67 v4_67 t0_67 t1_67 H locs ls hR hP hD hS hl
            refine lv_iadd hx hb dX11_evening_67 ?_
            refine lv_istore_n (lv' := [(3, .int (t0_67 + t1_67)), (0, .ref (ad b1)), (1, .int v1_67), (2, .int v2_67), (4, .int v4_67)]) hx hb dX11_evening_68 rfl hl (Nat.le_of_ble_eq_true rfl) rfl (fun ls hl => ?_)
            refine lv_iinc (v := (v4_67 + 1)) (lv' := [(4, .int (v4_67 + 1)), (3, .int (t0_67 + t1_67)), (0, .ref (ad b1)), (1, .int v1_67), (2, .int v2_67)]) hx hb dX11_evening_69 hl (k := 4) rfl rfl (Nat.le_of_ble_eq_true rfl) rfl (fun ls hl => ?_)
            refine lv_goto (tgt := 27) hx hb dX11_evening_72 (by decide) ?_
            exact hI27 v1_67 v2_67 (t0_67 + t1_67) (v4_67 + 1) H _ ls hR hP hD hS (lv_sub hl [2, 3, 4, 1, 0] rfl)
          intro v1_27 v2_27 v3_27 v4_27 H locs ls hR hP hD hS hl
          rw [fX11_evening_27] at hR
          refine lv_iload hx hb dX11_evening_27 (lv_at hl 4 rfl) ?_
          refine lv_aload_n hx hb dX11_evening_29 rfl (lv_at hl 0 rfl) ?_
          refine va_get (D := (dC, dI)) (ci := 9) (v := .ref (ad (b1 + 1))) (C := RX11) (T := TX11) (N := 14) hx hb hts hinX11 hown hK hP 0 rfl rfl 0 (by decide) hF7 (fun _ h9 => h9) rfl dX11_evening_30 ?_
          refine lv_iconst (v := 0) hx hb dX11_evening_33 ic_0 ?_
          refine va_iald hx hb hK hP 1 0 rfl rfl vi_0_206 dX11_evening_34 ?_
          refine lv_icmp_ge (tgt := 75) hx hb dX11_evening_35 (by decide) (fun c35 => ?_) (fun c35 => ?_)
          · replace hR := it_t hR c35
            refine lv_iload_n hx hb dX11_evening_75 rfl (lv_at hl 1 rfl) ?_
            refine lv_iload_n hx hb dX11_evening_76 rfl (lv_at hl 3 rfl) ?_
            refine lv_if_ge (tgt := 85) hx hb dX11_evening_77 (by decide) (fun c77 => ?_) (fun c77 => ?_)
            · replace hR := it_t hR c77
              refine lv_iload_n hx hb dX11_evening_85 rfl (lv_at hl 3 rfl) ?_
              exact hB86 v2_27 v1_27 v3_27 H _ ls hR hP hD hS (lv_sub hl [0, 2] rfl)
            · replace hR := it_f hR c77
              refine lv_iload_n hx hb dX11_evening_80 rfl (lv_at hl 3 rfl) ?_
              refine lv_ineg hx hb dX11_evening_81 ?_
              refine lv_goto (tgt := 86) hx hb dX11_evening_82 (by decide) ?_
              exact hB86 v2_27 v1_27 (-v3_27) H _ ls hR hP hD hS (lv_sub hl [0, 2] rfl)
          · replace hR := it_f hR c35
            refine lv_iload_n hx hb dX11_evening_38 rfl (lv_at hl 3 rfl) ?_
            refine lv_aload_n hx hb dX11_evening_39 rfl (lv_at hl 0 rfl) ?_
            refine lv_iload hx hb dX11_evening_40 (lv_at hl 4 rfl) ?_
            refine lv_iconst (v := 0) hx hb dX11_evening_42 ic_0 ?_
            replace hR := bd_e hR
            obtain ⟨q43, gq43, hR⟩ := hR
            refine cl_Vi (As := [.int v4_27, .int (0 : Int32)]) (rest := [.int v3_27]) (L := [(w_X11 ad (b1) cs S1)]) (L' := [(w_X11 ad (b1) cs S1)]) (Wc := [(w_X11 ad (b1) cs S1)]) (Wc' := [(w_X11 ad (b1) cs S1)]) (is := [0]) (js := []) ⟨hx, hb, hml, hown, hts⟩ (k_X11_ofStation l dC dI cs ad (b1) H.size S1 v4_27 (0 : Int32) q43 gq43) (cwV 2 hts gX11_evening_X11_ofStation rfl rfl rfl cd_X11_ofStation ⟨Nat.le_of_ble_eq_true rfl, Nat.le_of_ble_eq_true rfl⟩) hK hP hD hS hA ⟨rfl, rfl, rfl, rfl, rfl, rfl⟩ (jn_nd (is := [0]) hD rfl rfl) 0 9 rfl rfl rfl rfl rfl hl.1 (Nat.le_of_ble_eq_true rfl) dX11_evening_43 (fun H43 locs43 hP' hD' hS' => ?_)
            replace hS := hS'
            replace hP : va_P (dC, dI) vwCl (fl [(w_X11 ad (b1) cs S1)]) H43 := hP'
            replace hD : va_D A (fl [(w_X11 ad (b1) cs S1)]) := hD'
            clear hP' hD' hS'
            refine lv_iload_n hx hb dX11_evening_46 rfl (lv_at hl 2 rfl) ?_
            refine lv_icmp_gt (tgt := 66) hx hb dX11_evening_47 (by decide) (fun c47 => ?_) (fun c47 => ?_)
            · replace hR := it_t hR c47
              refine lv_iconst (v := 0) hx hb dX11_evening_66 ic_0 ?_
              exact hB67 v1_27 v2_27 v4_27 v3_27 (0 : Int32) H43 _ ls hR hP hD hS (lv_sub hl [0, 1, 2, 4] rfl)
            · replace hR := it_f hR c47
              refine lv_aload_n hx hb dX11_evening_50 rfl (lv_at hl 0 rfl) ?_
              refine lv_iload hx hb dX11_evening_51 (lv_at hl 4 rfl) ?_
              replace hR := bd_e hR
              obtain ⟨q53, gq53, hR⟩ := hR
              refine cl_Vi (As := [.int v4_27]) (rest := [.int v3_27]) (L := [(w_X11 ad (b1) cs S1)]) (L' := [(w_X11 ad (b1) cs S1)]) (Wc := [(w_X11 ad (b1) cs S1)]) (Wc' := [(w_X11 ad (b1) cs S1)]) (is := [0]) (js := []) ⟨hx, hb, hml, hown, hts⟩ (k_X11_docked l dC dI cs ad (b1) H43.size S1 v4_27 q53 gq53) (cwV 1 hts gX11_evening_X11_docked rfl rfl rfl cd_X11_docked ⟨Nat.le_of_ble_eq_true rfl, Nat.le_of_ble_eq_true rfl⟩) hK hP hD hS hA ⟨rfl, rfl, rfl, rfl, rfl, rfl⟩ (jn_nd (is := [0]) hD rfl rfl) 0 9 rfl rfl rfl rfl rfl hl.1 (Nat.le_of_ble_eq_true rfl) dX11_evening_53 (fun H53 locs53 hP' hD' hS' => ?_)
              replace hS := hS'
              replace hP : va_P (dC, dI) vwCl (fl [(w_X11 ad (b1) cs S1)]) H53 := hP'
              replace hD : va_D A (fl [(w_X11 ad (b1) cs S1)]) := hD'
              clear hP' hD' hS'
              refine lv_aload_n hx hb dX11_evening_56 rfl (lv_at hl 0 rfl) ?_
              refine lv_iload hx hb dX11_evening_57 (lv_at hl 4 rfl) ?_
              replace hR := bd_e hR
              obtain ⟨q59, gq59, hR⟩ := hR
              refine cl_Vi (As := [.int v4_27]) (rest := [.int q53, .int v3_27]) (L := [(w_X11 ad (b1) cs S1)]) (L' := [(w_X11 ad (b1) cs S1)]) (Wc := [(w_X11 ad (b1) cs S1)]) (Wc' := [(w_X11 ad (b1) cs S1)]) (is := [0]) (js := []) ⟨hx, hb, hml, hown, hts⟩ (k_X11_aim l dC dI cs ad (b1) H53.size S1 v4_27 q59 gq59) (cwV 1 hts gX11_evening_X11_aim rfl rfl rfl cd_X11_aim ⟨Nat.le_of_ble_eq_true rfl, Nat.le_of_ble_eq_true rfl⟩) hK hP hD hS hA ⟨rfl, rfl, rfl, rfl, rfl, rfl⟩ (jn_nd (is := [0]) hD rfl rfl) 0 9 rfl rfl rfl rfl rfl hl.1 (Nat.le_of_ble_eq_true rfl) dX11_evening_59 (fun H59 locs59 hP' hD' hS' => ?_)
              replace hS := hS'
              replace hP : va_P (dC, dI) vwCl (fl [(w_X11 ad (b1) cs S1)]) H59 := hP'
              replace hD : va_D A (fl [(w_X11 ad (b1) cs S1)]) := hD'
              clear hP' hD' hS'
              refine lv_isub hx hb dX11_evening_62 ?_
              refine lv_goto (tgt := 67) hx hb dX11_evening_63 (by decide) ?_
              exact hB67 v1_27 v2_27 v4_27 v3_27 (q53 - q59) H59 _ ls hR hP hD hS (lv_sub hl [0, 1, 2, 4] rfl)
      intro v1_16 v2_16 H locs ls hR hP hD hS hl
      rw [fX11_evening_16] at hR
      refine lv_iload_n hx hb dX11_evening_16 rfl (lv_at hl 2 rfl) ?_
      refine lv_bipush (v := 99) hx hb dX11_evening_17 bp_99 ?_
      refine lv_icmp_ge (tgt := 94) hx hb dX11_evening_19 (by decide) (fun c19 => ?_) (fun c19 => ?_)
      · replace hR := it_t hR c19
        refine lv_iload_n hx hb dX11_evening_94 rfl (lv_at hl 1 rfl) ?_
        replace hR := Option.some.inj hR
        have e9 := hR
        exact W.iret hx hb hr (fun t ht hW => ⟨⟨_, (), rfl, e9, by rw [ht]; exact hP, va_K.moved hW.alike hK, hD⟩, hS.F ht⟩) hS.2.2 dX11_evening_95
      · replace hR := it_f hR c19
        refine lv_iconst (v := 0) hx hb dX11_evening_22 ic_0 ?_
        refine lv_istore_n (lv' := [(3, .int (0 : Int32)), (0, .ref (ad b1)), (1, .int v1_16), (2, .int v2_16)]) hx hb dX11_evening_23 rfl hl (Nat.le_of_ble_eq_true rfl) rfl (fun ls hl => ?_)
        refine lv_iconst (v := 0) hx hb dX11_evening_24 ic_0 ?_
        refine lv_istore (lv' := [(4, .int (0 : Int32)), (3, .int (0 : Int32)), (0, .ref (ad b1)), (1, .int v1_16), (2, .int v2_16)]) hx hb dX11_evening_25 hl (Nat.le_of_ble_eq_true rfl) rfl (fun ls hl => ?_)
        exact hB27 fuel v1_16 v2_16 (0 : Int32) (0 : Int32) H _ ls hR hP hD hS (lv_sub hl [2, 3, 4, 1, 0] rfl)
  refine lv_aload_n hx hb dX11_evening_0 rfl (lv_at hl 0 rfl) ?_
  refine va_get (D := (dC, dI)) (ci := 9) (v := .ref (ad (b1 + 1))) (C := RX11) (T := TX11) (N := 14) hx hb hts hinX11 hown hK hP 0 rfl rfl 0 (by decide) hF7 (fun _ h9 => h9) rfl dX11_evening_1 ?_
  refine lv_iconst (v := 0) hx hb dX11_evening_4 ic_0 ?_
  refine va_iald hx hb hK hP 1 0 rfl rfl vi_0_206 dX11_evening_5 ?_
  refine lv_if_ne (tgt := 12) hx hb dX11_evening_6 (by decide) (fun c6 => ?_) (fun c6 => ?_)
  · replace hR := it_f hR c6
    refine lv_iconst (v := 0) hx hb dX11_evening_12 ic_0 ?_
    refine lv_istore_n (lv' := [(1, .int (0 : Int32)), (0, .ref (ad b1))]) hx hb dX11_evening_13 rfl hl (Nat.le_of_ble_eq_true rfl) rfl (fun ls hl => ?_)
    refine lv_iconst (v := 0) hx hb dX11_evening_14 ic_0 ?_
    refine lv_istore_n (lv' := [(2, .int (0 : Int32)), (1, .int (0 : Int32)), (0, .ref (ad b1))]) hx hb dX11_evening_15 rfl hl (Nat.le_of_ble_eq_true rfl) rfl (fun ls hl => ?_)
    exact hB16 fuel (0 : Int32) (0 : Int32) s.heap _ ls hR hP hD hS (lv_sub hl [2, 1, 0] rfl)
  · replace hR := it_t hR c6
    refine lv_bipush (v := (-4)) hx hb dX11_evening_9 bp_m4 ?_
    replace hR := Option.some.inj hR
    have e9 := hR
    exact W.iret hx hb hr (fun t ht hW => ⟨⟨_, (), rfl, e9, by rw [ht]; exact hP, va_K.moved hW.alike hK, hD⟩, hS.F ht⟩) hS.2.2 dX11_evening_11
set_option maxHeartbeats 8000000 in
set_option maxRecDepth 100000 in
theorem k_X11_keep (l : Launch) (dC : Nat → ClassId) (dI : Nat → Nat → Nat) (cs : Nat → ClassId) (ad : Nat → Nat) (b1 : Nat) (sz : Nat) (S1 : T2) (r : Int32) (u1 : T2) (hR : fX11_keep S1 = some (r, u1)) : Met l yX11_keep wsX11_keep ({ frames := 1, cells := 0, slots := 0, locals := 22 } : Room) (va_Pc [.ref (ad b1)] (pW dC dI (tyL cs) (fl [(w_X11 ad (b1) cs S1)]) sz)) (QI dC dI (tyL cs) (va_A (fl [(w_X11 ad (b1) cs S1)]) sz) (fl [(w_X11 ad (b1) cs u1)]) r) 0 0 (va_A (fl [(w_X11 ad (b1) cs S1)]) sz) := by
  refine mt_of (own := RX11) (cc := cX11_keep) (maxL := 1) (ret := (some .int)) (Qc := fun A => QI dC dI (tyL cs) A (fl [(w_X11 ad (b1) cs u1)]) r) rfl (by decide) rfl (Nat.le_of_ble_eq_true rfl) (fun p e s m below meth c A ls hsz hx hb hr hts hown hlocks hml hA hK hP hD hS hl => ?_)
  subst hsz
  have hl : lv_has ls 1 [(0, .ref (ad b1))] := hl
  have hF7 := hts (.fieldLink RX11 7 "DockedBikesModel" "s" "[I") (List.mem_of_getElem? (i := 1) rfl)
  have hF19 := hts (.fieldLink RX11 19 "DockedBikesModel" "kept" "[I") (List.mem_of_getElem? (i := 2) rfl)
  have hF141 := hts (.fieldLink RX11 141 "DockedBikesModel" "isKept" "Z") (List.mem_of_getElem? (i := 3) rfl)
  have hinX11 : ∀ w ∈ wsX110, w ∈ wsX11_keep := by decide +kernel
  refine lv_aload_n hx hb dX11_keep_0 rfl (lv_at hl 0 rfl) ?_
  refine va_get (D := (dC, dI)) (ci := 9) (v := .ref (ad (b1 + 1))) (C := RX11) (T := TX11) (N := 14) hx hb hts hinX11 hown hK hP 0 rfl rfl 0 (by decide) hF7 (fun _ h9 => h9) rfl dX11_keep_1 ?_
  refine lv_aload_n hx hb dX11_keep_4 rfl (lv_at hl 0 rfl) ?_
  refine va_get (D := (dC, dI)) (ci := 9) (v := .ref (ad (b1 + 4))) (C := RX11) (T := TX11) (N := 14) hx hb hts hinX11 hown hK hP 0 rfl rfl 3 (by decide) hF19 (fun _ h9 => h9) rfl dX11_keep_5 ?_
  replace hR := bd_e hR
  obtain ⟨q8, gq8, hR⟩ := hR
  replace hP : va_P (dC, dI) vwCl (fl [[((ad b1), .inr (9, [.ref (ad (b1 + 1)), .ref (ad (b1 + 2)), .ref (ad (b1 + 3)), .ref (ad (b1 + 4)), .int (S1 6 0), .int (S1 6 1), .int (S1 6 2), .ref (ad (b1 + 5)), .int (S1 6 3), .int (S1 6 4), .int (S1 6 5), .int (S1 6 6), .int (S1 6 7), .ref (ad (b1 + 6))]))], (w_A206 ad (b1 + 1) cs (S1 0)), [((ad (b1 + 2)), .inl (cs 0, 824, .inl (S1 1)))], (w_A206 ad (b1 + 3) cs (S1 2)), (w_A206 ad (b1 + 4) cs (S1 3)), [((ad (b1 + 5)), .inl (cs 0, 60, .inl (S1 4)))], [((ad (b1 + 6)), .inl (cs 0, 2, .inl (S1 5)))]]) s.heap := hP
  replace hD : va_D A (fl [[((ad b1), .inr (9, [.ref (ad (b1 + 1)), .ref (ad (b1 + 2)), .ref (ad (b1 + 3)), .ref (ad (b1 + 4)), .int (S1 6 0), .int (S1 6 1), .int (S1 6 2), .ref (ad (b1 + 5)), .int (S1 6 3), .int (S1 6 4), .int (S1 6 5), .int (S1 6 6), .int (S1 6 7), .ref (ad (b1 + 6))]))], (w_A206 ad (b1 + 1) cs (S1 0)), [((ad (b1 + 2)), .inl (cs 0, 824, .inl (S1 1)))], (w_A206 ad (b1 + 3) cs (S1 2)), (w_A206 ad (b1 + 4) cs (S1 3)), [((ad (b1 + 5)), .inl (cs 0, 60, .inl (S1 4)))], [((ad (b1 + 6)), .inl (cs 0, 2, .inl (S1 5)))]]) := hD
  refine cl_Sv (As := [.ref (ad (b1 + 1)), .ref (ad (b1 + 4))]) (rest := []) (L := [[((ad b1), .inr (9, [.ref (ad (b1 + 1)), .ref (ad (b1 + 2)), .ref (ad (b1 + 3)), .ref (ad (b1 + 4)), .int (S1 6 0), .int (S1 6 1), .int (S1 6 2), .ref (ad (b1 + 5)), .int (S1 6 3), .int (S1 6 4), .int (S1 6 5), .int (S1 6 6), .int (S1 6 7), .ref (ad (b1 + 6))]))], (w_A206 ad (b1 + 1) cs (S1 0)), [((ad (b1 + 2)), .inl (cs 0, 824, .inl (S1 1)))], (w_A206 ad (b1 + 3) cs (S1 2)), (w_A206 ad (b1 + 4) cs (S1 3)), [((ad (b1 + 5)), .inl (cs 0, 60, .inl (S1 4)))], [((ad (b1 + 6)), .inl (cs 0, 2, .inl (S1 5)))]]) (L' := [[((ad b1), .inr (9, [.ref (ad (b1 + 1)), .ref (ad (b1 + 2)), .ref (ad (b1 + 3)), .ref (ad (b1 + 4)), .int ((sU S1 3 q8) 6 0), .int ((sU S1 3 q8) 6 1), .int ((sU S1 3 q8) 6 2), .ref (ad (b1 + 5)), .int ((sU S1 3 q8) 6 3), .int ((sU S1 3 q8) 6 4), .int ((sU S1 3 q8) 6 5), .int ((sU S1 3 q8) 6 6), .int ((sU S1 3 q8) 6 7), .ref (ad (b1 + 6))]))], (w_A206 ad (b1 + 1) cs ((sU S1 3 q8) 0)), [((ad (b1 + 2)), .inl (cs 0, 824, .inl ((sU S1 3 q8) 1)))], (w_A206 ad (b1 + 3) cs ((sU S1 3 q8) 2)), (w_A206 ad (b1 + 4) cs ((sU S1 3 q8) 3)), [((ad (b1 + 5)), .inl (cs 0, 60, .inl ((sU S1 3 q8) 4)))], [((ad (b1 + 6)), .inl (cs 0, 2, .inl ((sU S1 3 q8) 5)))]]) (Wc := [(w_A206 ad (b1 + 1) cs (S1 0)), (w_A206 ad (b1 + 4) cs (S1 3))]) (Wc' := [(w_A206 ad (b1 + 1) cs (S1 0)), (w_A206 ad (b1 + 4) cs q8)]) (is := [1, 4]) (js := [0, 2, 3, 5, 6]) ⟨hx, hb, hml, hown, hts⟩ (k_X11_copies l dC dI cs ad (b1 + 1) (b1 + 4) s.heap.size (S1 0) (S1 3) q8 gq8) (cwS 2 hts gX11_keep_X11_copies rfl rfl rfl cd_X11_copies ⟨Nat.le_of_ble_eq_true rfl, Nat.le_of_ble_eq_true rfl⟩) hK hP hD hS hA ⟨rfl, rfl, rfl, rfl, rfl, rfl⟩ (jn_nd (is := [1, 4]) hD rfl rfl) rfl rfl hl.1 (Nat.le_of_ble_eq_true rfl) dX11_keep_8 (fun H8 locs8 hP' hD' hS' => ?_)
  replace hS := hS'
  have hP' : va_P (dC, dI) vwCl (fl [(w_X11 ad (b1) cs (sU S1 3 q8))]) H8 := hP'
  have hD' : va_D A (fl [(w_X11 ad (b1) cs (sU S1 3 q8))]) := hD'
  replace hR := bn_e hR
  obtain ⟨S1_8, eS1_8, hR⟩ := hR
  replace hP : va_P (dC, dI) vwCl (fl [(w_X11 ad (b1) cs S1_8)]) H8 := by rw [eS1_8]; exact hP'
  replace hD : va_D A (fl [(w_X11 ad (b1) cs S1_8)]) := by rw [eS1_8]; exact hD'
  clear hP' hD' hS'
  refine lv_aload_n hx hb dX11_keep_11 rfl (lv_at hl 0 rfl) ?_
  refine lv_iconst (v := 1) hx hb dX11_keep_12 ic_1 ?_
  refine va_put (D := (dC, dI)) (ci := 9) (v := .int (1 : Int32)) (ty := .boolean) (C := RX11) (T := TX11) (N := 14) hx hb hts hinX11 tyX11 tyX11_ok nmX11 hown hK hP hD hS 0 rfl rfl 4 (by decide) hF141 (fun _ h9 => h9) rfl (by decide +kernel) rfl rfl (Nat.le_of_ble_eq_true rfl) dX11_keep_13 (fun H13 locs13 hP' hD' hS' => ?_)
  replace hS := hS'
  have hP' : va_P (dC, dI) vwCl (fl [(w_X11 ad (b1) cs (sU S1_8 6 (sU (S1_8 6) 0 (1 : Int32))))]) H13 := hP'
  have hD' : va_D A (fl [(w_X11 ad (b1) cs (sU S1_8 6 (sU (S1_8 6) 0 (1 : Int32))))]) := hD'
  replace hR := bn_e hR
  obtain ⟨S1_13, eS1_13, hR⟩ := hR
  replace hP : va_P (dC, dI) vwCl (fl [(w_X11 ad (b1) cs S1_13)]) H13 := by rw [eS1_13]; exact hP'
  replace hD : va_D A (fl [(w_X11 ad (b1) cs S1_13)]) := by rw [eS1_13]; exact hD'
  clear hP' hD' hS'
  refine lv_aload_n hx hb dX11_keep_16 rfl (lv_at hl 0 rfl) ?_
  refine va_get (D := (dC, dI)) (ci := 9) (v := .ref (ad (b1 + 1))) (C := RX11) (T := TX11) (N := 14) hx hb hts hinX11 hown hK hP 0 rfl rfl 0 (by decide) hF7 (fun _ h9 => h9) rfl dX11_keep_17 ?_
  refine lv_iconst (v := 4) hx hb dX11_keep_20 ic_4 ?_
  refine va_iald hx hb hK hP 1 0 rfl rfl vi_4_206 dX11_keep_21 ?_
  replace hR := Option.some.inj hR
  obtain ⟨e9, hR⟩ := Prod.mk.inj hR
  have eu1 := hR
  replace hP : va_P (dC, dI) vwCl (fl [(w_X11 ad (b1) cs u1)]) H13 := by rw [← eu1]; exact hP
  replace hD : va_D A (fl [(w_X11 ad (b1) cs u1)]) := by rw [← eu1]; exact hD
  exact W.iret hx hb hr (fun t ht hW => ⟨⟨_, (), rfl, e9, by rw [ht]; exact hP, va_K.moved hW.alike hK, hD⟩, hS.F ht⟩) hS.2.2 dX11_keep_22
set_option maxHeartbeats 8000000 in
set_option maxRecDepth 100000 in
theorem k_X11_restore (l : Launch) (dC : Nat → ClassId) (dI : Nat → Nat → Nat) (cs : Nat → ClassId) (ad : Nat → Nat) (b1 : Nat) (sz : Nat) (S1 : T2) (r : Int32) (u1 : T2) (hR : fX11_restore S1 = some (r, u1)) : Met l yX11_restore wsX11_restore ({ frames := 1, cells := 0, slots := 0, locals := 22 } : Room) (va_Pc [.ref (ad b1)] (pW dC dI (tyL cs) (fl [(w_X11 ad (b1) cs S1)]) sz)) (QI dC dI (tyL cs) (va_A (fl [(w_X11 ad (b1) cs S1)]) sz) (fl [(w_X11 ad (b1) cs u1)]) r) 0 0 (va_A (fl [(w_X11 ad (b1) cs S1)]) sz) := by
  refine mt_of (own := RX11) (cc := cX11_restore) (maxL := 1) (ret := (some .int)) (Qc := fun A => QI dC dI (tyL cs) A (fl [(w_X11 ad (b1) cs u1)]) r) rfl (by decide) rfl (Nat.le_of_ble_eq_true rfl) (fun p e s m below meth c A ls hsz hx hb hr hts hown hlocks hml hA hK hP hD hS hl => ?_)
  subst hsz
  have hl : lv_has ls 1 [(0, .ref (ad b1))] := hl
  have hF7 := hts (.fieldLink RX11 7 "DockedBikesModel" "s" "[I") (List.mem_of_getElem? (i := 3) rfl)
  have hF19 := hts (.fieldLink RX11 19 "DockedBikesModel" "kept" "[I") (List.mem_of_getElem? (i := 2) rfl)
  have hF141 := hts (.fieldLink RX11 141 "DockedBikesModel" "isKept" "Z") (List.mem_of_getElem? (i := 1) rfl)
  have hinX11 : ∀ w ∈ wsX110, w ∈ wsX11_restore := by decide +kernel
  refine lv_aload_n hx hb dX11_restore_0 rfl (lv_at hl 0 rfl) ?_
  refine va_get (D := (dC, dI)) (ci := 9) (v := .int (S1 6 0)) (C := RX11) (T := TX11) (N := 14) hx hb hts hinX11 hown hK hP 0 rfl rfl 4 (by decide) hF141 (fun _ h9 => h9) rfl dX11_restore_1 ?_
  refine lv_if_ne (tgt := 10) hx hb dX11_restore_4 (by decide) (fun c4 => ?_) (fun c4 => ?_)
  · replace hR := it_f hR c4
    refine lv_aload_n hx hb dX11_restore_10 rfl (lv_at hl 0 rfl) ?_
    replace hR := bd_e hR
    obtain ⟨q11, gq11, hR⟩ := hR
    refine cl_Vv (As := []) (rest := []) (L := [(w_X11 ad (b1) cs S1)]) (L' := [(w_X11 ad (b1) cs q11)]) (Wc := [(w_X11 ad (b1) cs S1)]) (Wc' := [(w_X11 ad (b1) cs q11)]) (is := [0]) (js := []) ⟨hx, hb, hml, hown, hts⟩ (k_X11_changes l dC dI cs ad (b1) s.heap.size S1 q11 gq11) (cwV 0 hts gX11_restore_X11_changes rfl rfl rfl cd_X11_changes ⟨Nat.le_of_ble_eq_true rfl, Nat.le_of_ble_eq_true rfl⟩) hK hP hD hS hA ⟨rfl, rfl, rfl, rfl, rfl, rfl⟩ (jn_nd (is := [0]) hD rfl rfl) 0 9 rfl rfl rfl rfl rfl hl.1 (Nat.le_of_ble_eq_true rfl) dX11_restore_11 (fun H11 locs11 hP' hD' hS' => ?_)
    replace hS := hS'
    replace hP : va_P (dC, dI) vwCl (fl [(w_X11 ad (b1) cs q11)]) H11 := hP'
    replace hD : va_D A (fl [(w_X11 ad (b1) cs q11)]) := hD'
    clear hP' hD' hS'
    refine lv_aload_n hx hb dX11_restore_14 rfl (lv_at hl 0 rfl) ?_
    refine va_get (D := (dC, dI)) (ci := 9) (v := .ref (ad (b1 + 4))) (C := RX11) (T := TX11) (N := 14) hx hb hts hinX11 hown hK hP 0 rfl rfl 3 (by decide) hF19 (fun _ h9 => h9) rfl dX11_restore_15 ?_
    refine lv_aload_n hx hb dX11_restore_18 rfl (lv_at hl 0 rfl) ?_
    refine va_get (D := (dC, dI)) (ci := 9) (v := .ref (ad (b1 + 1))) (C := RX11) (T := TX11) (N := 14) hx hb hts hinX11 hown hK hP 0 rfl rfl 0 (by decide) hF7 (fun _ h9 => h9) rfl dX11_restore_19 ?_
    replace hR := bd_e hR
    obtain ⟨q22, gq22, hR⟩ := hR
    replace hP : va_P (dC, dI) vwCl (fl [[((ad b1), .inr (9, [.ref (ad (b1 + 1)), .ref (ad (b1 + 2)), .ref (ad (b1 + 3)), .ref (ad (b1 + 4)), .int (q11 6 0), .int (q11 6 1), .int (q11 6 2), .ref (ad (b1 + 5)), .int (q11 6 3), .int (q11 6 4), .int (q11 6 5), .int (q11 6 6), .int (q11 6 7), .ref (ad (b1 + 6))]))], (w_A206 ad (b1 + 1) cs (q11 0)), [((ad (b1 + 2)), .inl (cs 0, 824, .inl (q11 1)))], (w_A206 ad (b1 + 3) cs (q11 2)), (w_A206 ad (b1 + 4) cs (q11 3)), [((ad (b1 + 5)), .inl (cs 0, 60, .inl (q11 4)))], [((ad (b1 + 6)), .inl (cs 0, 2, .inl (q11 5)))]]) H11 := hP
    replace hD : va_D A (fl [[((ad b1), .inr (9, [.ref (ad (b1 + 1)), .ref (ad (b1 + 2)), .ref (ad (b1 + 3)), .ref (ad (b1 + 4)), .int (q11 6 0), .int (q11 6 1), .int (q11 6 2), .ref (ad (b1 + 5)), .int (q11 6 3), .int (q11 6 4), .int (q11 6 5), .int (q11 6 6), .int (q11 6 7), .ref (ad (b1 + 6))]))], (w_A206 ad (b1 + 1) cs (q11 0)), [((ad (b1 + 2)), .inl (cs 0, 824, .inl (q11 1)))], (w_A206 ad (b1 + 3) cs (q11 2)), (w_A206 ad (b1 + 4) cs (q11 3)), [((ad (b1 + 5)), .inl (cs 0, 60, .inl (q11 4)))], [((ad (b1 + 6)), .inl (cs 0, 2, .inl (q11 5)))]]) := hD
    refine cl_Sv (As := [.ref (ad (b1 + 4)), .ref (ad (b1 + 1))]) (rest := []) (L := [[((ad b1), .inr (9, [.ref (ad (b1 + 1)), .ref (ad (b1 + 2)), .ref (ad (b1 + 3)), .ref (ad (b1 + 4)), .int (q11 6 0), .int (q11 6 1), .int (q11 6 2), .ref (ad (b1 + 5)), .int (q11 6 3), .int (q11 6 4), .int (q11 6 5), .int (q11 6 6), .int (q11 6 7), .ref (ad (b1 + 6))]))], (w_A206 ad (b1 + 1) cs (q11 0)), [((ad (b1 + 2)), .inl (cs 0, 824, .inl (q11 1)))], (w_A206 ad (b1 + 3) cs (q11 2)), (w_A206 ad (b1 + 4) cs (q11 3)), [((ad (b1 + 5)), .inl (cs 0, 60, .inl (q11 4)))], [((ad (b1 + 6)), .inl (cs 0, 2, .inl (q11 5)))]]) (L' := [[((ad b1), .inr (9, [.ref (ad (b1 + 1)), .ref (ad (b1 + 2)), .ref (ad (b1 + 3)), .ref (ad (b1 + 4)), .int ((sU q11 0 q22) 6 0), .int ((sU q11 0 q22) 6 1), .int ((sU q11 0 q22) 6 2), .ref (ad (b1 + 5)), .int ((sU q11 0 q22) 6 3), .int ((sU q11 0 q22) 6 4), .int ((sU q11 0 q22) 6 5), .int ((sU q11 0 q22) 6 6), .int ((sU q11 0 q22) 6 7), .ref (ad (b1 + 6))]))], (w_A206 ad (b1 + 1) cs ((sU q11 0 q22) 0)), [((ad (b1 + 2)), .inl (cs 0, 824, .inl ((sU q11 0 q22) 1)))], (w_A206 ad (b1 + 3) cs ((sU q11 0 q22) 2)), (w_A206 ad (b1 + 4) cs ((sU q11 0 q22) 3)), [((ad (b1 + 5)), .inl (cs 0, 60, .inl ((sU q11 0 q22) 4)))], [((ad (b1 + 6)), .inl (cs 0, 2, .inl ((sU q11 0 q22) 5)))]]) (Wc := [(w_A206 ad (b1 + 4) cs (q11 3)), (w_A206 ad (b1 + 1) cs (q11 0))]) (Wc' := [(w_A206 ad (b1 + 4) cs (q11 3)), (w_A206 ad (b1 + 1) cs q22)]) (is := [4, 1]) (js := [0, 2, 3, 5, 6]) ⟨hx, hb, hml, hown, hts⟩ (k_X11_copies l dC dI cs ad (b1 + 4) (b1 + 1) H11.size (q11 3) (q11 0) q22 gq22) (cwS 2 hts gX11_restore_X11_copies rfl rfl rfl cd_X11_copies ⟨Nat.le_of_ble_eq_true rfl, Nat.le_of_ble_eq_true rfl⟩) hK hP hD hS hA ⟨rfl, rfl, rfl, rfl, rfl, rfl⟩ (jn_nd (is := [4, 1]) hD rfl rfl) rfl rfl hl.1 (Nat.le_of_ble_eq_true rfl) dX11_restore_22 (fun H22 locs22 hP' hD' hS' => ?_)
    replace hS := hS'
    have hP' : va_P (dC, dI) vwCl (fl [(w_X11 ad (b1) cs (sU q11 0 q22))]) H22 := hP'
    have hD' : va_D A (fl [(w_X11 ad (b1) cs (sU q11 0 q22))]) := hD'
    replace hR := bn_e hR
    obtain ⟨S1_22, eS1_22, hR⟩ := hR
    replace hP : va_P (dC, dI) vwCl (fl [(w_X11 ad (b1) cs S1_22)]) H22 := by rw [eS1_22]; exact hP'
    replace hD : va_D A (fl [(w_X11 ad (b1) cs S1_22)]) := by rw [eS1_22]; exact hD'
    clear hP' hD' hS'
    refine lv_aload_n hx hb dX11_restore_25 rfl (lv_at hl 0 rfl) ?_
    refine va_get (D := (dC, dI)) (ci := 9) (v := .ref (ad (b1 + 1))) (C := RX11) (T := TX11) (N := 14) hx hb hts hinX11 hown hK hP 0 rfl rfl 0 (by decide) hF7 (fun _ h9 => h9) rfl dX11_restore_26 ?_
    refine lv_iconst (v := 4) hx hb dX11_restore_29 ic_4 ?_
    refine va_iald hx hb hK hP 1 0 rfl rfl vi_4_206 dX11_restore_30 ?_
    replace hR := Option.some.inj hR
    obtain ⟨e9, hR⟩ := Prod.mk.inj hR
    have eu1 := hR
    replace hP : va_P (dC, dI) vwCl (fl [(w_X11 ad (b1) cs u1)]) H22 := by rw [← eu1]; exact hP
    replace hD : va_D A (fl [(w_X11 ad (b1) cs u1)]) := by rw [← eu1]; exact hD
    exact W.iret hx hb hr (fun t ht hW => ⟨⟨_, (), rfl, e9, by rw [ht]; exact hP, va_K.moved hW.alike hK, hD⟩, hS.F ht⟩) hS.2.2 dX11_restore_31
  · replace hR := it_t hR c4
    refine lv_bipush (v := (-2)) hx hb dX11_restore_7 bp_m2 ?_
    replace hR := Option.some.inj hR
    obtain ⟨e9, hR⟩ := Prod.mk.inj hR
    have eu1 := hR
    replace hP : va_P (dC, dI) vwCl (fl [(w_X11 ad (b1) cs u1)]) s.heap := by rw [← eu1]; exact hP
    replace hD : va_D A (fl [(w_X11 ad (b1) cs u1)]) := by rw [← eu1]; exact hD
    exact W.iret hx hb hr (fun t ht hW => ⟨⟨_, (), rfl, e9, by rw [ht]; exact hP, va_K.moved hW.alike hK, hD⟩, hS.F ht⟩) hS.2.2 dX11_restore_9
set_option maxHeartbeats 8000000 in
set_option maxRecDepth 100000 in
theorem k_X11_undo (l : Launch) (dC : Nat → ClassId) (dI : Nat → Nat → Nat) (cs : Nat → ClassId) (ad : Nat → Nat) (b1 : Nat) (sz : Nat) (S1 : T2) (r : Int32) (u1 : T2) (hR : fX11_undo S1 = some (r, u1)) : Met l yX11_undo wsX11_undo ({ frames := 0, cells := 0, slots := 0, locals := 0 } : Room) (va_Pc [.ref (ad b1)] (pW dC dI (tyL cs) (fl [(w_X11 ad (b1) cs S1)]) sz)) (QI dC dI (tyL cs) (va_A (fl [(w_X11 ad (b1) cs S1)]) sz) (fl [(w_X11 ad (b1) cs u1)]) r) 0 0 (va_A (fl [(w_X11 ad (b1) cs S1)]) sz) := by
  refine mt_of (own := RX11) (cc := cX11_undo) (maxL := 2) (ret := (some .int)) (Qc := fun A => QI dC dI (tyL cs) A (fl [(w_X11 ad (b1) cs u1)]) r) rfl (by decide) rfl (Nat.le_of_ble_eq_true rfl) (fun p e s m below meth c A ls hsz hx hb hr hts hown hlocks hml hA hK hP hD hS hl => ?_)
  subst hsz
  have hl : lv_has ls 2 [(0, .ref (ad b1))] := hl
  have hF7 := hts (.fieldLink RX11 7 "DockedBikesModel" "s" "[I") (List.mem_of_getElem? (i := 2) rfl)
  have hF13 := hts (.fieldLink RX11 13 "DockedBikesModel" "past" "[I") (List.mem_of_getElem? (i := 3) rfl)
  have hF32 := hts (.fieldLink RX11 32 "DockedBikesModel" "pasts" "I") (List.mem_of_getElem? (i := 1) rfl)
  have hinX11 : ∀ w ∈ wsX110, w ∈ wsX11_undo := by decide +kernel
  have hB22 : ∀ (n22 : Nat), ∀ (S1_22h : T2) (v1_22 : Int32) (H : Heap) (locs : List Loc) (ls : Array Slot), fX11_undo_22 n22 S1_22h v1_22 = some (r, u1) → va_P (dC, dI) vwCl (fl [(w_X11 ad (b1) cs S1_22h)]) H → va_D A (fl [(w_X11 ad (b1) cs S1_22h)]) → va_S A s.heap H locs → lv_has ls 2 [(0, .ref (ad b1)), (1, .int v1_22)] → W p l e (headSpec wsX11_undo ({ frames := 0, cells := 0, slots := 0, locals := 0 } : Room)).room s m ([.ref (ad b1)] : List Value).toArray below meth c H locs 0 0 (MQ below (QI dC dI (tyL cs) A (fl [(w_X11 ad (b1) cs u1)]) r) ([.ref (ad b1)] : List Value).toArray s 0 0 A) (F0 m 22 ls []) := by
    intro n22
    induction n22 with
    | zero =>
      intro S1_22h v1_22 H locs ls hR hP hD hS hl
      exact nn_e hR
    | succ n22 hI22 =>
      intro S1_22h v1_22 H locs ls hR hP hD hS hl
      rw [fX11_undo_22] at hR
      refine lv_iload_n hx hb dX11_undo_22 rfl (lv_at hl 1 rfl) ?_
      refine lv_sipush (v := 206) hx hb dX11_undo_23 sp_206 ?_
      refine lv_icmp_ge (tgt := 56) hx hb dX11_undo_26 (by decide) (fun c26 => ?_) (fun c26 => ?_)
      · replace hR := it_t hR c26
        refine lv_aload_n hx hb dX11_undo_56 rfl (lv_at hl 0 rfl) ?_
        refine va_get (D := (dC, dI)) (ci := 9) (v := .int (S1_22h 6 1)) (C := RX11) (T := TX11) (N := 14) hx hb hts hinX11 hown hK hP 0 rfl rfl 5 (by decide) hF32 (fun _ h9 => h9) rfl dX11_undo_57 ?_
        replace hR := Option.some.inj hR
        obtain ⟨e9, hR⟩ := Prod.mk.inj hR
        have eu1 := hR
        replace hP : va_P (dC, dI) vwCl (fl [(w_X11 ad (b1) cs u1)]) H := by rw [← eu1]; exact hP
        replace hD : va_D A (fl [(w_X11 ad (b1) cs u1)]) := by rw [← eu1]; exact hD
        exact W.iret hx hb hr (fun t ht hW => ⟨⟨_, (), rfl, e9, by rw [ht]; exact hP, va_K.moved hW.alike hK, hD⟩, hS.F ht⟩) hS.2.2 dX11_undo_60
      · replace hR := it_f hR c26
        refine lv_aload_n hx hb dX11_undo_29 rfl (lv_at hl 0 rfl) ?_
        refine va_get (D := (dC, dI)) (ci := 9) (v := .ref (ad (b1 + 1))) (C := RX11) (T := TX11) (N := 14) hx hb hts hinX11 hown hK hP 0 rfl rfl 0 (by decide) hF7 (fun _ h9 => h9) rfl dX11_undo_30 ?_
        refine lv_iload_n hx hb dX11_undo_33 rfl (lv_at hl 1 rfl) ?_
        refine lv_aload_n hx hb dX11_undo_34 rfl (lv_at hl 0 rfl) ?_
        refine va_get (D := (dC, dI)) (ci := 9) (v := .ref (ad (b1 + 2))) (C := RX11) (T := TX11) (N := 14) hx hb hts hinX11 hown hK hP 0 rfl rfl 1 (by decide) hF13 (fun _ h9 => h9) rfl dX11_undo_35 ?_
        refine lv_sipush (v := 206) hx hb dX11_undo_38 sp_206 ?_
        refine lv_aload_n hx hb dX11_undo_41 rfl (lv_at hl 0 rfl) ?_
        refine va_get (D := (dC, dI)) (ci := 9) (v := .int (S1_22h 6 1)) (C := RX11) (T := TX11) (N := 14) hx hb hts hinX11 hown hK hP 0 rfl rfl 5 (by decide) hF32 (fun _ h9 => h9) rfl dX11_undo_42 ?_
        refine lv_imul hx hb dX11_undo_45 ?_
        refine lv_iload_n hx hb dX11_undo_46 rfl (lv_at hl 1 rfl) ?_
        refine lv_iadd hx hb dX11_undo_47 ?_
        replace hR := gi_e hR
        obtain ⟨i48, hR⟩ := hR
        refine va_iald hx hb hK hP 2 0 rfl rfl i48 dX11_undo_48 ?_
        replace hR := gi_e hR
        obtain ⟨i49, hR⟩ := hR
        refine va_iast hx hb hK hP hD hS 1 0 rfl rfl i49 dX11_undo_49 (fun H49 locs49 hP' hD' hS' => ?_)
        replace hS := hS'
        have hP' : va_P (dC, dI) vwCl (fl [(w_X11 ad (b1) cs (sU S1_22h 0 (sU (S1_22h 0) v1_22.toNatClampNeg (S1_22h 1 (((206 : Int32) * (S1_22h 6 1)) + v1_22).toNatClampNeg))))]) H49 := hP'
        have hD' : va_D A (fl [(w_X11 ad (b1) cs (sU S1_22h 0 (sU (S1_22h 0) v1_22.toNatClampNeg (S1_22h 1 (((206 : Int32) * (S1_22h 6 1)) + v1_22).toNatClampNeg))))]) := hD'
        replace hR := bn_e hR
        obtain ⟨S1_49, eS1_49, hR⟩ := hR
        replace hP : va_P (dC, dI) vwCl (fl [(w_X11 ad (b1) cs S1_49)]) H49 := by rw [eS1_49]; exact hP'
        replace hD : va_D A (fl [(w_X11 ad (b1) cs S1_49)]) := by rw [eS1_49]; exact hD'
        clear hP' hD' hS'
        refine lv_iinc (v := (v1_22 + 1)) (lv' := [(1, .int (v1_22 + 1)), (0, .ref (ad b1))]) hx hb dX11_undo_50 hl (k := 1) rfl rfl (Nat.le_of_ble_eq_true rfl) rfl (fun ls hl => ?_)
        refine lv_goto (tgt := 22) hx hb dX11_undo_53 (by decide) ?_
        exact hI22 S1_49 (v1_22 + 1) H49 _ ls hR hP hD hS (lv_sub hl [1, 0] rfl)
  refine lv_aload_n hx hb dX11_undo_0 rfl (lv_at hl 0 rfl) ?_
  refine va_get (D := (dC, dI)) (ci := 9) (v := .int (S1 6 1)) (C := RX11) (T := TX11) (N := 14) hx hb hts hinX11 hown hK hP 0 rfl rfl 5 (by decide) hF32 (fun _ h9 => h9) rfl dX11_undo_1 ?_
  refine lv_if_ne (tgt := 10) hx hb dX11_undo_4 (by decide) (fun c4 => ?_) (fun c4 => ?_)
  · replace hR := it_f hR c4
    refine lv_aload_n hx hb dX11_undo_10 rfl (lv_at hl 0 rfl) ?_
    refine lv_dup hx hb dX11_undo_11 rfl ?_
    refine va_get (D := (dC, dI)) (ci := 9) (v := .int (S1 6 1)) (C := RX11) (T := TX11) (N := 14) hx hb hts hinX11 hown hK hP 0 rfl rfl 5 (by decide) hF32 (fun _ h9 => h9) rfl dX11_undo_12 ?_
    refine lv_iconst (v := 1) hx hb dX11_undo_15 ic_1 ?_
    refine lv_isub hx hb dX11_undo_16 ?_
    refine va_put (D := (dC, dI)) (ci := 9) (v := .int ((S1 6 1) - 1)) (ty := .int) (C := RX11) (T := TX11) (N := 14) hx hb hts hinX11 tyX11 tyX11_ok nmX11 hown hK hP hD hS 0 rfl rfl 5 (by decide) hF32 (fun _ h9 => h9) rfl (by decide +kernel) rfl rfl (Nat.le_of_ble_eq_true rfl) dX11_undo_17 (fun H17 locs17 hP' hD' hS' => ?_)
    replace hS := hS'
    have hP' : va_P (dC, dI) vwCl (fl [(w_X11 ad (b1) cs (sU S1 6 (sU (S1 6) 1 ((S1 6 1) - 1))))]) H17 := hP'
    have hD' : va_D A (fl [(w_X11 ad (b1) cs (sU S1 6 (sU (S1 6) 1 ((S1 6 1) - 1))))]) := hD'
    replace hR := bn_e hR
    obtain ⟨S1_17, eS1_17, hR⟩ := hR
    replace hP : va_P (dC, dI) vwCl (fl [(w_X11 ad (b1) cs S1_17)]) H17 := by rw [eS1_17]; exact hP'
    replace hD : va_D A (fl [(w_X11 ad (b1) cs S1_17)]) := by rw [eS1_17]; exact hD'
    clear hP' hD' hS'
    refine lv_iconst (v := 0) hx hb dX11_undo_20 ic_0 ?_
    refine lv_istore_n (lv' := [(1, .int (0 : Int32)), (0, .ref (ad b1))]) hx hb dX11_undo_21 rfl hl (Nat.le_of_ble_eq_true rfl) rfl (fun ls hl => ?_)
    exact hB22 fuel S1_17 (0 : Int32) H17 _ ls hR hP hD hS (lv_sub hl [1, 0] rfl)
  · replace hR := it_t hR c4
    refine lv_bipush (v := (-2)) hx hb dX11_undo_7 bp_m2 ?_
    replace hR := Option.some.inj hR
    obtain ⟨e9, hR⟩ := Prod.mk.inj hR
    have eu1 := hR
    replace hP : va_P (dC, dI) vwCl (fl [(w_X11 ad (b1) cs u1)]) s.heap := by rw [← eu1]; exact hP
    replace hD : va_D A (fl [(w_X11 ad (b1) cs u1)]) := by rw [← eu1]; exact hD
    exact W.iret hx hb hr (fun t ht hW => ⟨⟨_, (), rfl, e9, by rw [ht]; exact hP, va_K.moved hW.alike hK, hD⟩, hS.F ht⟩) hS.2.2 dX11_undo_9
set_option maxHeartbeats 8000000 in
set_option maxRecDepth 100000 in
theorem k_X11_type (l : Launch) (dC : Nat → ClassId) (dI : Nat → Nat → Nat) (cs : Nat → ClassId) (ad : Nat → Nat) (b1 : Nat) (sz : Nat) (S1 : T2) (p1 : Int32) (r : Int32) (u1 : T2) (hR : fX11_type S1 p1 = some (r, u1)) : Met l yX11_type wsX11_type ({ frames := 1, cells := 0, slots := 0, locals := 22 } : Room) (va_Pc [.ref (ad b1), .int p1] (pW dC dI (tyL cs) (fl [(w_X11 ad (b1) cs S1)]) sz)) (QI dC dI (tyL cs) (va_A (fl [(w_X11 ad (b1) cs S1)]) sz) (fl [(w_X11 ad (b1) cs u1)]) r) 0 0 (va_A (fl [(w_X11 ad (b1) cs S1)]) sz) := by
  refine mt_of (own := RX11) (cc := cX11_type) (maxL := 2) (ret := (some .int)) (Qc := fun A => QI dC dI (tyL cs) A (fl [(w_X11 ad (b1) cs u1)]) r) rfl (by decide) rfl (Nat.le_of_ble_eq_true rfl) (fun p e s m below meth c A ls hsz hx hb hr hts hown hlocks hml hA hK hP hD hS hl => ?_)
  subst hsz
  have hl : lv_has ls 2 [(0, .ref (ad b1)), (1, .int p1)] := hl
  have hF22 := hts (.fieldLink RX11 22 "DockedBikesModel" "text" "[I") (List.mem_of_getElem? (i := 2) rfl)
  have hF138 := hts (.fieldLink RX11 138 "DockedBikesModel" "typed" "I") (List.mem_of_getElem? (i := 1) rfl)
  have hinX11 : ∀ w ∈ wsX110, w ∈ wsX11_type := by decide +kernel
  refine lv_iload_n hx hb dX11_type_0 rfl (lv_at hl 1 rfl) ?_
  refine lv_bipush (v := 32) hx hb dX11_type_1 bp_32 ?_
  refine lv_bipush (v := 126) hx hb dX11_type_3 bp_126 ?_
  replace hR := bd_e hR
  obtain ⟨q5, gq5, hR⟩ := hR
  refine cl_Si (As := [.int p1, .int (32 : Int32), .int (126 : Int32)]) (rest := []) (L := [(w_X11 ad (b1) cs S1)]) (L' := [(w_X11 ad (b1) cs S1)]) (Wc := []) (Wc' := []) (is := []) (js := [0]) ⟨hx, hb, hml, hown, hts⟩ (k_X11_in l dC dI cs ad s.heap.size p1 (32 : Int32) (126 : Int32) q5 gq5) (cwS 3 hts gX11_type_X11_in rfl rfl rfl cd_X11_in ⟨Nat.le_of_ble_eq_true rfl, Nat.le_of_ble_eq_true rfl⟩) hK hP hD hS hA ⟨rfl, rfl, rfl, rfl, rfl, rfl⟩ (jn_nd (is := []) hD rfl rfl) rfl rfl hl.1 (Nat.le_of_ble_eq_true rfl) dX11_type_5 (fun H5 locs5 hP' hD' hS' => ?_)
  replace hS := hS'
  replace hP : va_P (dC, dI) vwCl (fl [(w_X11 ad (b1) cs S1)]) H5 := hP'
  replace hD : va_D A (fl [(w_X11 ad (b1) cs S1)]) := hD'
  clear hP' hD' hS'
  refine lv_if_ne (tgt := 13) hx hb dX11_type_8 (by decide) (fun c8 => ?_) (fun c8 => ?_)
  · replace hR := it_f hR c8
    refine lv_aload_n hx hb dX11_type_13 rfl (lv_at hl 0 rfl) ?_
    refine va_get (D := (dC, dI)) (ci := 9) (v := .int (S1 6 3)) (C := RX11) (T := TX11) (N := 14) hx hb hts hinX11 hown hK hP 0 rfl rfl 8 (by decide) hF138 (fun _ h9 => h9) rfl dX11_type_14 ?_
    refine lv_bipush (v := 60) hx hb dX11_type_17 bp_60 ?_
    refine lv_icmp_ne (tgt := 25) hx hb dX11_type_19 (by decide) (fun c19 => ?_) (fun c19 => ?_)
    · replace hR := it_f hR c19
      refine lv_aload_n hx hb dX11_type_25 rfl (lv_at hl 0 rfl) ?_
      refine va_get (D := (dC, dI)) (ci := 9) (v := .ref (ad (b1 + 5))) (C := RX11) (T := TX11) (N := 14) hx hb hts hinX11 hown hK hP 0 rfl rfl 7 (by decide) hF22 (fun _ h9 => h9) rfl dX11_type_26 ?_
      refine lv_aload_n hx hb dX11_type_29 rfl (lv_at hl 0 rfl) ?_
      refine va_get (D := (dC, dI)) (ci := 9) (v := .int (S1 6 3)) (C := RX11) (T := TX11) (N := 14) hx hb hts hinX11 hown hK hP 0 rfl rfl 8 (by decide) hF138 (fun _ h9 => h9) rfl dX11_type_30 ?_
      refine lv_iload_n hx hb dX11_type_33 rfl (lv_at hl 1 rfl) ?_
      replace hR := gi_e hR
      obtain ⟨i34, hR⟩ := hR
      refine va_iast hx hb hK hP hD hS 5 0 rfl rfl i34 dX11_type_34 (fun H34 locs34 hP' hD' hS' => ?_)
      replace hS := hS'
      have hP' : va_P (dC, dI) vwCl (fl [(w_X11 ad (b1) cs (sU S1 4 (sU (S1 4) (S1 6 3).toNatClampNeg p1)))]) H34 := hP'
      have hD' : va_D A (fl [(w_X11 ad (b1) cs (sU S1 4 (sU (S1 4) (S1 6 3).toNatClampNeg p1)))]) := hD'
      replace hR := bn_e hR
      obtain ⟨S1_34, eS1_34, hR⟩ := hR
      replace hP : va_P (dC, dI) vwCl (fl [(w_X11 ad (b1) cs S1_34)]) H34 := by rw [eS1_34]; exact hP'
      replace hD : va_D A (fl [(w_X11 ad (b1) cs S1_34)]) := by rw [eS1_34]; exact hD'
      clear hP' hD' hS'
      refine lv_aload_n hx hb dX11_type_35 rfl (lv_at hl 0 rfl) ?_
      refine lv_dup hx hb dX11_type_36 rfl ?_
      refine va_get (D := (dC, dI)) (ci := 9) (v := .int (S1_34 6 3)) (C := RX11) (T := TX11) (N := 14) hx hb hts hinX11 hown hK hP 0 rfl rfl 8 (by decide) hF138 (fun _ h9 => h9) rfl dX11_type_37 ?_
      refine lv_iconst (v := 1) hx hb dX11_type_40 ic_1 ?_
      refine lv_iadd hx hb dX11_type_41 ?_
      refine va_put (D := (dC, dI)) (ci := 9) (v := .int ((S1_34 6 3) + 1)) (ty := .int) (C := RX11) (T := TX11) (N := 14) hx hb hts hinX11 tyX11 tyX11_ok nmX11 hown hK hP hD hS 0 rfl rfl 8 (by decide) hF138 (fun _ h9 => h9) rfl (by decide +kernel) rfl rfl (Nat.le_of_ble_eq_true rfl) dX11_type_42 (fun H42 locs42 hP' hD' hS' => ?_)
      replace hS := hS'
      have hP' : va_P (dC, dI) vwCl (fl [(w_X11 ad (b1) cs (sU S1_34 6 (sU (S1_34 6) 3 ((S1_34 6 3) + 1))))]) H42 := hP'
      have hD' : va_D A (fl [(w_X11 ad (b1) cs (sU S1_34 6 (sU (S1_34 6) 3 ((S1_34 6 3) + 1))))]) := hD'
      replace hR := bn_e hR
      obtain ⟨S1_42, eS1_42, hR⟩ := hR
      replace hP : va_P (dC, dI) vwCl (fl [(w_X11 ad (b1) cs S1_42)]) H42 := by rw [eS1_42]; exact hP'
      replace hD : va_D A (fl [(w_X11 ad (b1) cs S1_42)]) := by rw [eS1_42]; exact hD'
      clear hP' hD' hS'
      refine lv_aload_n hx hb dX11_type_45 rfl (lv_at hl 0 rfl) ?_
      refine va_get (D := (dC, dI)) (ci := 9) (v := .int (S1_42 6 3)) (C := RX11) (T := TX11) (N := 14) hx hb hts hinX11 hown hK hP 0 rfl rfl 8 (by decide) hF138 (fun _ h9 => h9) rfl dX11_type_46 ?_
      replace hR := Option.some.inj hR
      obtain ⟨e9, hR⟩ := Prod.mk.inj hR
      have eu1 := hR
      replace hP : va_P (dC, dI) vwCl (fl [(w_X11 ad (b1) cs u1)]) H42 := by rw [← eu1]; exact hP
      replace hD : va_D A (fl [(w_X11 ad (b1) cs u1)]) := by rw [← eu1]; exact hD
      exact W.iret hx hb hr (fun t ht hW => ⟨⟨_, (), rfl, e9, by rw [ht]; exact hP, va_K.moved hW.alike hK, hD⟩, hS.F ht⟩) hS.2.2 dX11_type_49
    · replace hR := it_t hR c19
      refine lv_bipush (v := (-3)) hx hb dX11_type_22 bp_m3 ?_
      replace hR := Option.some.inj hR
      obtain ⟨e9, hR⟩ := Prod.mk.inj hR
      have eu1 := hR
      replace hP : va_P (dC, dI) vwCl (fl [(w_X11 ad (b1) cs u1)]) H5 := by rw [← eu1]; exact hP
      replace hD : va_D A (fl [(w_X11 ad (b1) cs u1)]) := by rw [← eu1]; exact hD
      exact W.iret hx hb hr (fun t ht hW => ⟨⟨_, (), rfl, e9, by rw [ht]; exact hP, va_K.moved hW.alike hK, hD⟩, hS.F ht⟩) hS.2.2 dX11_type_24
  · replace hR := it_t hR c8
    refine lv_iconst (v := (-1)) hx hb dX11_type_11 ic_m1 ?_
    replace hR := Option.some.inj hR
    obtain ⟨e9, hR⟩ := Prod.mk.inj hR
    have eu1 := hR
    replace hP : va_P (dC, dI) vwCl (fl [(w_X11 ad (b1) cs u1)]) H5 := by rw [← eu1]; exact hP
    replace hD : va_D A (fl [(w_X11 ad (b1) cs u1)]) := by rw [← eu1]; exact hD
    exact W.iret hx hb hr (fun t ht hW => ⟨⟨_, (), rfl, e9, by rw [ht]; exact hP, va_K.moved hW.alike hK, hD⟩, hS.F ht⟩) hS.2.2 dX11_type_12
set_option maxHeartbeats 8000000 in
set_option maxRecDepth 100000 in
theorem k_X11_clearText (l : Launch) (dC : Nat → ClassId) (dI : Nat → Nat → Nat) (cs : Nat → ClassId) (ad : Nat → Nat) (b1 : Nat) (sz : Nat) (S1 : T2) (r : Int32) (u1 : T2) (hR : fX11_clearText S1 = some (r, u1)) : Met l yX11_clearText wsX11_clearText ({ frames := 0, cells := 0, slots := 0, locals := 0 } : Room) (va_Pc [.ref (ad b1)] (pW dC dI (tyL cs) (fl [(w_X11 ad (b1) cs S1)]) sz)) (QI dC dI (tyL cs) (va_A (fl [(w_X11 ad (b1) cs S1)]) sz) (fl [(w_X11 ad (b1) cs u1)]) r) 0 0 (va_A (fl [(w_X11 ad (b1) cs S1)]) sz) := by
  refine mt_of (own := RX11) (cc := cX11_clearText) (maxL := 2) (ret := (some .int)) (Qc := fun A => QI dC dI (tyL cs) A (fl [(w_X11 ad (b1) cs u1)]) r) rfl (by decide) rfl (Nat.le_of_ble_eq_true rfl) (fun p e s m below meth c A ls hsz hx hb hr hts hown hlocks hml hA hK hP hD hS hl => ?_)
  subst hsz
  have hl : lv_has ls 2 [(0, .ref (ad b1))] := hl
  have hF138 := hts (.fieldLink RX11 138 "DockedBikesModel" "typed" "I") (List.mem_of_getElem? (i := 1) rfl)
  have hinX11 : ∀ w ∈ wsX110, w ∈ wsX11_clearText := by decide +kernel
  refine lv_aload_n hx hb dX11_clearText_0 rfl (lv_at hl 0 rfl) ?_
  refine va_get (D := (dC, dI)) (ci := 9) (v := .int (S1 6 3)) (C := RX11) (T := TX11) (N := 14) hx hb hts hinX11 hown hK hP 0 rfl rfl 8 (by decide) hF138 (fun _ h9 => h9) rfl dX11_clearText_1 ?_
  refine lv_istore_n (lv' := [(1, .int (S1 6 3)), (0, .ref (ad b1))]) hx hb dX11_clearText_4 rfl hl (Nat.le_of_ble_eq_true rfl) rfl (fun ls hl => ?_)
  refine lv_aload_n hx hb dX11_clearText_5 rfl (lv_at hl 1 rfl) ?_
  refine lv_iconst (v := 0) hx hb dX11_clearText_6 ic_0 ?_
  refine va_put (D := (dC, dI)) (ci := 9) (v := .int (0 : Int32)) (ty := .int) (C := RX11) (T := TX11) (N := 14) hx hb hts hinX11 tyX11 tyX11_ok nmX11 hown hK hP hD hS 0 rfl rfl 8 (by decide) hF138 (fun _ h9 => h9) rfl (by decide +kernel) rfl rfl (Nat.le_of_ble_eq_true rfl) dX11_clearText_7 (fun H7 locs7 hP' hD' hS' => ?_)
  replace hS := hS'
  have hP' : va_P (dC, dI) vwCl (fl [(w_X11 ad (b1) cs (sU S1 6 (sU (S1 6) 3 (0 : Int32))))]) H7 := hP'
  have hD' : va_D A (fl [(w_X11 ad (b1) cs (sU S1 6 (sU (S1 6) 3 (0 : Int32))))]) := hD'
  replace hR := bn_e hR
  obtain ⟨S1_7, eS1_7, hR⟩ := hR
  replace hP : va_P (dC, dI) vwCl (fl [(w_X11 ad (b1) cs S1_7)]) H7 := by rw [eS1_7]; exact hP'
  replace hD : va_D A (fl [(w_X11 ad (b1) cs S1_7)]) := by rw [eS1_7]; exact hD'
  clear hP' hD' hS'
  refine lv_iload_n hx hb dX11_clearText_10 rfl (lv_at hl 0 rfl) ?_
  replace hR := Option.some.inj hR
  obtain ⟨e9, hR⟩ := Prod.mk.inj hR
  have eu1 := hR
  replace hP : va_P (dC, dI) vwCl (fl [(w_X11 ad (b1) cs u1)]) H7 := by rw [← eu1]; exact hP
  replace hD : va_D A (fl [(w_X11 ad (b1) cs u1)]) := by rw [← eu1]; exact hD
  exact W.iret hx hb hr (fun t ht hW => ⟨⟨_, (), rfl, e9, by rw [ht]; exact hP, va_K.moved hW.alike hK, hD⟩, hS.F ht⟩) hS.2.2 dX11_clearText_11
set_option maxHeartbeats 8000000 in
set_option maxRecDepth 100000 in
theorem k_X11_isAt_ (l : Launch) (dC : Nat → ClassId) (dI : Nat → Nat → Nat) (cs : Nat → ClassId) (ad : Nat → Nat) (b1 : Nat) (sz : Nat) (S1 : T2) (p1 : Int32) (p2 : Int32) (r : Int32) (hR : fX11_isAt_ S1 p1 p2 = some r) : Met l yX11_isAt_ wsX11_isAt_ ({ frames := 1, cells := 0, slots := 0, locals := 22 } : Room) (va_Pc [.ref (ad b1), .int p1, .int p2] (pW dC dI (tyL cs) (fl [(w_X11 ad (b1) cs S1)]) sz)) (QI dC dI (tyL cs) (va_A (fl [(w_X11 ad (b1) cs S1)]) sz) (fl [(w_X11 ad (b1) cs S1)]) r) 0 0 (va_A (fl [(w_X11 ad (b1) cs S1)]) sz) := by
  refine mt_of (own := RX11) (cc := cX11_isAt_) (maxL := 3) (ret := (some .boolean)) (Qc := fun A => QI dC dI (tyL cs) A (fl [(w_X11 ad (b1) cs S1)]) r) rfl (by decide) rfl (Nat.le_of_ble_eq_true rfl) (fun p e s m below meth c A ls hsz hx hb hr hts hown hlocks hml hA hK hP hD hS hl => ?_)
  subst hsz
  have hl : lv_has ls 3 [(0, .ref (ad b1)), (1, .int p1), (2, .int p2)] := hl
  have hF22 := hts (.fieldLink RX11 22 "DockedBikesModel" "text" "[I") (List.mem_of_getElem? (i := 3) rfl)
  have hF138 := hts (.fieldLink RX11 138 "DockedBikesModel" "typed" "I") (List.mem_of_getElem? (i := 2) rfl)
  have hF151 := hts (.fieldLink RX11 151 "DockedBikesModel" "spot" "I") (List.mem_of_getElem? (i := 1) rfl)
  have hinX11 : ∀ w ∈ wsX110, w ∈ wsX11_isAt_ := by decide +kernel
  refine lv_aload_n hx hb dX11_isAt__0 rfl (lv_at hl 0 rfl) ?_
  refine va_get (D := (dC, dI)) (ci := 9) (v := .int (S1 6 4)) (C := RX11) (T := TX11) (N := 14) hx hb hts hinX11 hown hK hP 0 rfl rfl 9 (by decide) hF151 (fun _ h9 => h9) rfl dX11_isAt__1 ?_
  refine lv_aload_n hx hb dX11_isAt__4 rfl (lv_at hl 0 rfl) ?_
  refine va_get (D := (dC, dI)) (ci := 9) (v := .int (S1 6 3)) (C := RX11) (T := TX11) (N := 14) hx hb hts hinX11 hown hK hP 0 rfl rfl 8 (by decide) hF138 (fun _ h9 => h9) rfl dX11_isAt__5 ?_
  refine lv_icmp_ge (tgt := 32) hx hb dX11_isAt__8 (by decide) (fun c8 => ?_) (fun c8 => ?_)
  · replace hR := it_t hR c8
    refine lv_iconst (v := 0) hx hb dX11_isAt__32 ic_0 ?_
    replace hR := Option.some.inj hR
    have e9 := hR
    exact W.zret (ty := .boolean) hx hb hr (by decide) (fun t ht hW => ⟨⟨_, (), rfl, e9, by rw [ht]; exact hP, va_K.moved hW.alike hK, hD⟩, hS.F ht⟩) hS.2.2 dX11_isAt__33
  · replace hR := it_f hR c8
    refine lv_aload_n hx hb dX11_isAt__11 rfl (lv_at hl 0 rfl) ?_
    refine va_get (D := (dC, dI)) (ci := 9) (v := .ref (ad (b1 + 5))) (C := RX11) (T := TX11) (N := 14) hx hb hts hinX11 hown hK hP 0 rfl rfl 7 (by decide) hF22 (fun _ h9 => h9) rfl dX11_isAt__12 ?_
    refine lv_aload_n hx hb dX11_isAt__15 rfl (lv_at hl 0 rfl) ?_
    refine va_get (D := (dC, dI)) (ci := 9) (v := .int (S1 6 4)) (C := RX11) (T := TX11) (N := 14) hx hb hts hinX11 hown hK hP 0 rfl rfl 9 (by decide) hF151 (fun _ h9 => h9) rfl dX11_isAt__16 ?_
    replace hR := gi_e hR
    obtain ⟨i19, hR⟩ := hR
    refine va_iald hx hb hK hP 5 0 rfl rfl i19 dX11_isAt__19 ?_
    refine lv_iload_n hx hb dX11_isAt__20 rfl (lv_at hl 1 rfl) ?_
    refine lv_iload_n hx hb dX11_isAt__21 rfl (lv_at hl 2 rfl) ?_
    replace hR := bd_e hR
    obtain ⟨q22, gq22, hR⟩ := hR
    refine cl_Si (As := [.int (S1 4 (S1 6 4).toNatClampNeg), .int p1, .int p2]) (rest := []) (L := [(w_X11 ad (b1) cs S1)]) (L' := [(w_X11 ad (b1) cs S1)]) (Wc := []) (Wc' := []) (is := []) (js := [0]) ⟨hx, hb, hml, hown, hts⟩ (k_X11_in l dC dI cs ad s.heap.size (S1 4 (S1 6 4).toNatClampNeg) p1 p2 q22 gq22) (cwS 3 hts gX11_isAt__X11_in rfl rfl rfl cd_X11_in ⟨Nat.le_of_ble_eq_true rfl, Nat.le_of_ble_eq_true rfl⟩) hK hP hD hS hA ⟨rfl, rfl, rfl, rfl, rfl, rfl⟩ (jn_nd (is := []) hD rfl rfl) rfl rfl hl.1 (Nat.le_of_ble_eq_true rfl) dX11_isAt__22 (fun H22 locs22 hP' hD' hS' => ?_)
    replace hS := hS'
    replace hP : va_P (dC, dI) vwCl (fl [(w_X11 ad (b1) cs S1)]) H22 := hP'
    replace hD : va_D A (fl [(w_X11 ad (b1) cs S1)]) := hD'
    clear hP' hD' hS'
    refine lv_if_eq (tgt := 32) hx hb dX11_isAt__25 (by decide) (fun c25 => ?_) (fun c25 => ?_)
    · replace hR := it_t hR c25
      refine lv_iconst (v := 0) hx hb dX11_isAt__32 ic_0 ?_
      replace hR := Option.some.inj hR
      have e9 := hR
      exact W.zret (ty := .boolean) hx hb hr (by decide) (fun t ht hW => ⟨⟨_, (), rfl, e9, by rw [ht]; exact hP, va_K.moved hW.alike hK, hD⟩, hS.F ht⟩) hS.2.2 dX11_isAt__33
    · replace hR := it_f hR c25
      refine lv_iconst (v := 1) hx hb dX11_isAt__28 ic_1 ?_
      refine lv_goto (tgt := 33) hx hb dX11_isAt__29 (by decide) ?_
      replace hR := Option.some.inj hR
      have e9 := hR
      exact W.zret (ty := .boolean) hx hb hr (by decide) (fun t ht hW => ⟨⟨_, (), rfl, e9, by rw [ht]; exact hP, va_K.moved hW.alike hK, hD⟩, hS.F ht⟩) hS.2.2 dX11_isAt__33
set_option maxHeartbeats 8000000 in
set_option maxRecDepth 100000 in
theorem k_X11_passes (l : Launch) (dC : Nat → ClassId) (dI : Nat → Nat → Nat) (cs : Nat → ClassId) (ad : Nat → Nat) (b1 : Nat) (sz : Nat) (S1 : T2) (p1 : Int32) (r : Int32) (u1 : T2) (hR : fX11_passes S1 p1 = some (r, u1)) : Met l yX11_passes wsX11_passes ({ frames := 2, cells := 0, slots := 0, locals := 44 } : Room) (va_Pc [.ref (ad b1), .int p1] (pW dC dI (tyL cs) (fl [(w_X11 ad (b1) cs S1)]) sz)) (QI dC dI (tyL cs) (va_A (fl [(w_X11 ad (b1) cs S1)]) sz) (fl [(w_X11 ad (b1) cs u1)]) r) 0 0 (va_A (fl [(w_X11 ad (b1) cs S1)]) sz) := by
  refine mt_of (own := RX11) (cc := cX11_passes) (maxL := 3) (ret := (some .boolean)) (Qc := fun A => QI dC dI (tyL cs) A (fl [(w_X11 ad (b1) cs u1)]) r) rfl (by decide) rfl (Nat.le_of_ble_eq_true rfl) (fun p e s m below meth c A ls hsz hx hb hr hts hown hlocks hml hA hK hP hD hS hl => ?_)
  subst hsz
  have hl : lv_has ls 3 [(0, .ref (ad b1)), (1, .int p1)] := hl
  have hF151 := hts (.fieldLink RX11 151 "DockedBikesModel" "spot" "I") (List.mem_of_getElem? (i := 1) rfl)
  have hinX11 : ∀ w ∈ wsX110, w ∈ wsX11_passes := by decide +kernel
  have hB21 : ∀ (S1_21h : T2) (v2_21 : Int32) (t1_21 : Int32) (t2_21 : Int32) (H : Heap) (locs : List Loc) (ls : Array Slot), fX11_passes_21 p1 S1_21h v2_21 t1_21 t2_21 = some (r, u1) → va_P (dC, dI) vwCl (fl [(w_X11 ad (b1) cs S1_21h)]) H → va_D A (fl [(w_X11 ad (b1) cs S1_21h)]) → va_S A s.heap H locs → lv_has ls 3 [(2, .int v2_21)] → W p l e (headSpec wsX11_passes ({ frames := 2, cells := 0, slots := 0, locals := 44 } : Room)).room s m ([.ref (ad b1), .int p1] : List Value).toArray below meth c H locs 0 0 (MQ below (QI dC dI (tyL cs) A (fl [(w_X11 ad (b1) cs u1)]) r) ([.ref (ad b1), .int p1] : List Value).toArray s 0 0 A) (F0 m 21 ls [.int t2_21, .int t1_21, .ref (ad b1)]) := by
    intro S1_21h v2_21 t1_21 t2_21 H locs ls hR hP hD hS hl
    refine lv_iadd hx hb dX11_passes_21 ?_
    refine va_put (D := (dC, dI)) (ci := 9) (v := .int (t1_21 + t2_21)) (ty := .int) (C := RX11) (T := TX11) (N := 14) hx hb hts hinX11 tyX11 tyX11_ok nmX11 hown hK hP hD hS 0 rfl rfl 9 (by decide) hF151 (fun _ h9 => h9) rfl (by decide +kernel) rfl rfl (Nat.le_of_ble_eq_true rfl) dX11_passes_22 (fun H22 locs22 hP' hD' hS' => ?_)
    replace hS := hS'
    have hP' : va_P (dC, dI) vwCl (fl [(w_X11 ad (b1) cs (sU S1_21h 6 (sU (S1_21h 6) 4 (t1_21 + t2_21))))]) H22 := hP'
    have hD' : va_D A (fl [(w_X11 ad (b1) cs (sU S1_21h 6 (sU (S1_21h 6) 4 (t1_21 + t2_21))))]) := hD'
    replace hR := bn_e hR
    obtain ⟨S1_22, eS1_22, hR⟩ := hR
    replace hP : va_P (dC, dI) vwCl (fl [(w_X11 ad (b1) cs S1_22)]) H22 := by rw [eS1_22]; exact hP'
    replace hD : va_D A (fl [(w_X11 ad (b1) cs S1_22)]) := by rw [eS1_22]; exact hD'
    clear hP' hD' hS'
    refine lv_iload_n hx hb dX11_passes_25 rfl (lv_at hl 0 rfl) ?_
    replace hR := gz_e hR
    obtain ⟨hn, hR⟩ := hR
    replace hR := Option.some.inj hR
    obtain ⟨e9, hR⟩ := Prod.mk.inj hR
    have eu1 := hR
    replace hP : va_P (dC, dI) vwCl (fl [(w_X11 ad (b1) cs u1)]) H22 := by rw [← eu1]; exact hP
    replace hD : va_D A (fl [(w_X11 ad (b1) cs u1)]) := by rw [← eu1]; exact hD
    exact W.zret (ty := .boolean) hx hb hr hn (fun t ht hW => ⟨⟨_, (), rfl, e9, by rw [ht]; exact hP, va_K.moved hW.alike hK, hD⟩, hS.F ht⟩) hS.2.2 dX11_passes_26
  refine lv_aload_n hx hb dX11_passes_0 rfl (lv_at hl 0 rfl) ?_
  refine lv_iload_n hx hb dX11_passes_1 rfl (lv_at hl 1 rfl) ?_
  refine lv_iload_n hx hb dX11_passes_2 rfl (lv_at hl 1 rfl) ?_
  replace hR := bd_e hR
  obtain ⟨q3, gq3, hR⟩ := hR
  refine cl_Vi (As := [.int p1, .int p1]) (rest := []) (L := [(w_X11 ad (b1) cs S1)]) (L' := [(w_X11 ad (b1) cs S1)]) (Wc := [(w_X11 ad (b1) cs S1)]) (Wc' := [(w_X11 ad (b1) cs S1)]) (is := [0]) (js := []) ⟨hx, hb, hml, hown, hts⟩ (k_X11_isAt_ l dC dI cs ad (b1) s.heap.size S1 p1 p1 q3 gq3) (cwV 2 hts gX11_passes_X11_isAt_ rfl rfl rfl cd_X11_isAt_ ⟨Nat.le_of_ble_eq_true rfl, Nat.le_of_ble_eq_true rfl⟩) hK hP hD hS hA ⟨rfl, rfl, rfl, rfl, rfl, rfl⟩ (jn_nd (is := [0]) hD rfl rfl) 0 9 rfl rfl rfl rfl rfl hl.1 (Nat.le_of_ble_eq_true rfl) dX11_passes_3 (fun H3 locs3 hP' hD' hS' => ?_)
  replace hS := hS'
  replace hP : va_P (dC, dI) vwCl (fl [(w_X11 ad (b1) cs S1)]) H3 := hP'
  replace hD : va_D A (fl [(w_X11 ad (b1) cs S1)]) := hD'
  clear hP' hD' hS'
  refine lv_istore_n (lv' := [(2, .int q3), (0, .ref (ad b1)), (1, .int p1)]) hx hb dX11_passes_6 rfl hl (Nat.le_of_ble_eq_true rfl) rfl (fun ls hl => ?_)
  refine lv_aload_n hx hb dX11_passes_7 rfl (lv_at hl 1 rfl) ?_
  refine lv_dup hx hb dX11_passes_8 rfl ?_
  refine va_get (D := (dC, dI)) (ci := 9) (v := .int (S1 6 4)) (C := RX11) (T := TX11) (N := 14) hx hb hts hinX11 hown hK hP 0 rfl rfl 9 (by decide) hF151 (fun _ h9 => h9) rfl dX11_passes_9 ?_
  refine lv_iload_n hx hb dX11_passes_12 rfl (lv_at hl 0 rfl) ?_
  refine lv_if_eq (tgt := 20) hx hb dX11_passes_13 (by decide) (fun c13 => ?_) (fun c13 => ?_)
  · replace hR := it_t hR c13
    refine lv_iconst (v := 0) hx hb dX11_passes_20 ic_0 ?_
    exact hB21 S1 q3 (S1 6 4) (0 : Int32) H3 _ ls hR hP hD hS (lv_sub hl [0] rfl)
  · replace hR := it_f hR c13
    refine lv_iconst (v := 1) hx hb dX11_passes_16 ic_1 ?_
    refine lv_goto (tgt := 21) hx hb dX11_passes_17 (by decide) ?_
    exact hB21 S1 q3 (S1 6 4) (1 : Int32) H3 _ ls hR hP hD hS (lv_sub hl [0] rfl)
set_option maxHeartbeats 8000000 in
set_option maxRecDepth 100000 in
theorem k_X11_number (l : Launch) (dC : Nat → ClassId) (dI : Nat → Nat → Nat) (cs : Nat → ClassId) (ad : Nat → Nat) (b1 : Nat) (sz : Nat) (S1 : T2) (p1 : Int32) (r : Int32) (u1 : T2) (hR : fX11_number S1 p1 = some (r, u1)) : Met l yX11_number wsX11_number ({ frames := 3, cells := 0, slots := 0, locals := 66 } : Room) (va_Pc [.ref (ad b1), .int p1] (pW dC dI (tyL cs) (fl [(w_X11 ad (b1) cs S1)]) sz)) (QI dC dI (tyL cs) (va_A (fl [(w_X11 ad (b1) cs S1)]) sz) (fl [(w_X11 ad (b1) cs u1)]) r) 0 0 (va_A (fl [(w_X11 ad (b1) cs S1)]) sz) := by
  refine mt_of (own := RX11) (cc := cX11_number) (maxL := 3) (ret := (some .boolean)) (Qc := fun A => QI dC dI (tyL cs) A (fl [(w_X11 ad (b1) cs u1)]) r) rfl (by decide) rfl (Nat.le_of_ble_eq_true rfl) (fun p e s m below meth c A ls hsz hx hb hr hts hown hlocks hml hA hK hP hD hS hl => ?_)
  subst hsz
  have hl : lv_has ls 3 [(0, .ref (ad b1)), (1, .int p1)] := hl
  have hF22 := hts (.fieldLink RX11 22 "DockedBikesModel" "text" "[I") (List.mem_of_getElem? (i := 3) rfl)
  have hF25 := hts (.fieldLink RX11 25 "DockedBikesModel" "told" "[I") (List.mem_of_getElem? (i := 2) rfl)
  have hF151 := hts (.fieldLink RX11 151 "DockedBikesModel" "spot" "I") (List.mem_of_getElem? (i := 1) rfl)
  have hinX11 : ∀ w ∈ wsX110, w ∈ wsX11_number := by decide +kernel
  have hB85 : ∀ (S1_85h : T2) (v2_85 : Int32) (H : Heap) (locs : List Loc) (ls : Array Slot), fX11_number_85 p1 S1_85h v2_85 = some (r, u1) → va_P (dC, dI) vwCl (fl [(w_X11 ad (b1) cs S1_85h)]) H → va_D A (fl [(w_X11 ad (b1) cs S1_85h)]) → va_S A s.heap H locs → lv_has ls 3 [(0, .ref (ad b1)), (2, .int v2_85)] → W p l e (headSpec wsX11_number ({ frames := 3, cells := 0, slots := 0, locals := 66 } : Room)).room s m ([.ref (ad b1), .int p1] : List Value).toArray below meth c H locs 0 0 (MQ below (QI dC dI (tyL cs) A (fl [(w_X11 ad (b1) cs u1)]) r) ([.ref (ad b1), .int p1] : List Value).toArray s 0 0 A) (F0 m 85 ls []) := by
    intro S1_85h v2_85 H locs ls hR hP hD hS hl
    refine lv_aload_n hx hb dX11_number_85 rfl (lv_at hl 0 rfl) ?_
    refine va_get (D := (dC, dI)) (ci := 9) (v := .int (S1_85h 6 4)) (C := RX11) (T := TX11) (N := 14) hx hb hts hinX11 hown hK hP 0 rfl rfl 9 (by decide) hF151 (fun _ h9 => h9) rfl dX11_number_86 ?_
    refine lv_iload_n hx hb dX11_number_89 rfl (lv_at hl 1 rfl) ?_
    refine lv_icmp_le (tgt := 97) hx hb dX11_number_90 (by decide) (fun c90 => ?_) (fun c90 => ?_)
    · replace hR := it_t hR c90
      refine lv_iconst (v := 0) hx hb dX11_number_97 ic_0 ?_
      replace hR := Option.some.inj hR
      obtain ⟨e9, hR⟩ := Prod.mk.inj hR
      have eu1 := hR
      replace hP : va_P (dC, dI) vwCl (fl [(w_X11 ad (b1) cs u1)]) H := by rw [← eu1]; exact hP
      replace hD : va_D A (fl [(w_X11 ad (b1) cs u1)]) := by rw [← eu1]; exact hD
      exact W.zret (ty := .boolean) hx hb hr (by decide) (fun t ht hW => ⟨⟨_, (), rfl, e9, by rw [ht]; exact hP, va_K.moved hW.alike hK, hD⟩, hS.F ht⟩) hS.2.2 dX11_number_98
    · replace hR := it_f hR c90
      refine lv_iconst (v := 1) hx hb dX11_number_93 ic_1 ?_
      refine lv_goto (tgt := 98) hx hb dX11_number_94 (by decide) ?_
      replace hR := Option.some.inj hR
      obtain ⟨e9, hR⟩ := Prod.mk.inj hR
      have eu1 := hR
      replace hP : va_P (dC, dI) vwCl (fl [(w_X11 ad (b1) cs u1)]) H := by rw [← eu1]; exact hP
      replace hD : va_D A (fl [(w_X11 ad (b1) cs u1)]) := by rw [← eu1]; exact hD
      exact W.zret (ty := .boolean) hx hb hr (by decide) (fun t ht hW => ⟨⟨_, (), rfl, e9, by rw [ht]; exact hP, va_K.moved hW.alike hK, hD⟩, hS.F ht⟩) hS.2.2 dX11_number_98
  have hB23 : ∀ (n23 : Nat), ∀ (S1_23h : T2) (v2_23 : Int32) (H : Heap) (locs : List Loc) (ls : Array Slot), fX11_number_23 p1 n23 S1_23h v2_23 = some (r, u1) → va_P (dC, dI) vwCl (fl [(w_X11 ad (b1) cs S1_23h)]) H → va_D A (fl [(w_X11 ad (b1) cs S1_23h)]) → va_S A s.heap H locs → lv_has ls 3 [(0, .ref (ad b1)), (1, .int p1), (2, .int v2_23)] → W p l e (headSpec wsX11_number ({ frames := 3, cells := 0, slots := 0, locals := 66 } : Room)).room s m ([.ref (ad b1), .int p1] : List Value).toArray below meth c H locs 0 0 (MQ below (QI dC dI (tyL cs) A (fl [(w_X11 ad (b1) cs u1)]) r) ([.ref (ad b1), .int p1] : List Value).toArray s 0 0 A) (F0 m 23 ls []) := by
    intro n23
    induction n23 with
    | zero =>
      intro S1_23h v2_23 H locs ls hR hP hD hS hl
      exact nn_e hR
    | succ n23 hI23 =>
      intro S1_23h v2_23 H locs ls hR hP hD hS hl
      rw [fX11_number_23] at hR
      refine lv_aload_n hx hb dX11_number_23 rfl (lv_at hl 0 rfl) ?_
      refine lv_bipush (v := 48) hx hb dX11_number_24 bp_48 ?_
      refine lv_bipush (v := 57) hx hb dX11_number_26 bp_57 ?_
      replace hR := bd_e hR
      obtain ⟨q28, gq28, hR⟩ := hR
      refine cl_Vi (As := [.int (48 : Int32), .int (57 : Int32)]) (rest := []) (L := [(w_X11 ad (b1) cs S1_23h)]) (L' := [(w_X11 ad (b1) cs S1_23h)]) (Wc := [(w_X11 ad (b1) cs S1_23h)]) (Wc' := [(w_X11 ad (b1) cs S1_23h)]) (is := [0]) (js := []) ⟨hx, hb, hml, hown, hts⟩ (k_X11_isAt_ l dC dI cs ad (b1) H.size S1_23h (48 : Int32) (57 : Int32) q28 gq28) (cwV 2 hts gX11_number_X11_isAt_ rfl rfl rfl cd_X11_isAt_ ⟨Nat.le_of_ble_eq_true rfl, Nat.le_of_ble_eq_true rfl⟩) hK hP hD hS hA ⟨rfl, rfl, rfl, rfl, rfl, rfl⟩ (jn_nd (is := [0]) hD rfl rfl) 0 9 rfl rfl rfl rfl rfl hl.1 (Nat.le_of_ble_eq_true rfl) dX11_number_28 (fun H28 locs28 hP' hD' hS' => ?_)
      replace hS := hS'
      replace hP : va_P (dC, dI) vwCl (fl [(w_X11 ad (b1) cs S1_23h)]) H28 := hP'
      replace hD : va_D A (fl [(w_X11 ad (b1) cs S1_23h)]) := hD'
      clear hP' hD' hS'
      refine lv_if_eq (tgt := 85) hx hb dX11_number_31 (by decide) (fun c31 => ?_) (fun c31 => ?_)
      · replace hR := it_t hR c31
        exact hB85 S1_23h v2_23 H28 _ ls hR hP hD hS (lv_sub hl [0, 2] rfl)
      · replace hR := it_f hR c31
        refine lv_aload_n hx hb dX11_number_34 rfl (lv_at hl 0 rfl) ?_
        refine va_get (D := (dC, dI)) (ci := 9) (v := .int (S1_23h 6 4)) (C := RX11) (T := TX11) (N := 14) hx hb hts hinX11 hown hK hP 0 rfl rfl 9 (by decide) hF151 (fun _ h9 => h9) rfl dX11_number_35 ?_
        refine lv_iload_n hx hb dX11_number_38 rfl (lv_at hl 2 rfl) ?_
        refine lv_isub hx hb dX11_number_39 ?_
        refine lv_iconst (v := 3) hx hb dX11_number_40 ic_3 ?_
        refine lv_icmp_ge (tgt := 85) hx hb dX11_number_41 (by decide) (fun c41 => ?_) (fun c41 => ?_)
        · replace hR := it_t hR c41
          exact hB85 S1_23h v2_23 H28 _ ls hR hP hD hS (lv_sub hl [0, 2] rfl)
        · replace hR := it_f hR c41
          refine lv_aload_n hx hb dX11_number_44 rfl (lv_at hl 0 rfl) ?_
          refine va_get (D := (dC, dI)) (ci := 9) (v := .ref (ad (b1 + 6))) (C := RX11) (T := TX11) (N := 14) hx hb hts hinX11 hown hK hP 0 rfl rfl 13 (by decide) hF25 (fun _ h9 => h9) rfl dX11_number_45 ?_
          refine lv_iload_n hx hb dX11_number_48 rfl (lv_at hl 1 rfl) ?_
          refine lv_bipush (v := 10) hx hb dX11_number_49 bp_10 ?_
          refine lv_aload_n hx hb dX11_number_51 rfl (lv_at hl 0 rfl) ?_
          refine va_get (D := (dC, dI)) (ci := 9) (v := .ref (ad (b1 + 6))) (C := RX11) (T := TX11) (N := 14) hx hb hts hinX11 hown hK hP 0 rfl rfl 13 (by decide) hF25 (fun _ h9 => h9) rfl dX11_number_52 ?_
          refine lv_iload_n hx hb dX11_number_55 rfl (lv_at hl 1 rfl) ?_
          replace hR := gi_e hR
          obtain ⟨i56, hR⟩ := hR
          refine va_iald hx hb hK hP 6 0 rfl rfl i56 dX11_number_56 ?_
          refine lv_imul hx hb dX11_number_57 ?_
          refine lv_aload_n hx hb dX11_number_58 rfl (lv_at hl 0 rfl) ?_
          refine va_get (D := (dC, dI)) (ci := 9) (v := .ref (ad (b1 + 5))) (C := RX11) (T := TX11) (N := 14) hx hb hts hinX11 hown hK hP 0 rfl rfl 7 (by decide) hF22 (fun _ h9 => h9) rfl dX11_number_59 ?_
          refine lv_aload_n hx hb dX11_number_62 rfl (lv_at hl 0 rfl) ?_
          refine va_get (D := (dC, dI)) (ci := 9) (v := .int (S1_23h 6 4)) (C := RX11) (T := TX11) (N := 14) hx hb hts hinX11 hown hK hP 0 rfl rfl 9 (by decide) hF151 (fun _ h9 => h9) rfl dX11_number_63 ?_
          replace hR := gi_e hR
          obtain ⟨i66, hR⟩ := hR
          refine va_iald hx hb hK hP 5 0 rfl rfl i66 dX11_number_66 ?_
          refine lv_iadd hx hb dX11_number_67 ?_
          refine lv_bipush (v := 48) hx hb dX11_number_68 bp_48 ?_
          refine lv_isub hx hb dX11_number_70 ?_
          replace hR := gi_e hR
          obtain ⟨i71, hR⟩ := hR
          refine va_iast hx hb hK hP hD hS 6 0 rfl rfl i71 dX11_number_71 (fun H71 locs71 hP' hD' hS' => ?_)
          replace hS := hS'
          have hP' : va_P (dC, dI) vwCl (fl [(w_X11 ad (b1) cs (sU S1_23h 5 (sU (S1_23h 5) p1.toNatClampNeg ((((10 : Int32) * (S1_23h 5 p1.toNatClampNeg)) + (S1_23h 4 (S1_23h 6 4).toNatClampNeg)) - 48))))]) H71 := hP'
          have hD' : va_D A (fl [(w_X11 ad (b1) cs (sU S1_23h 5 (sU (S1_23h 5) p1.toNatClampNeg ((((10 : Int32) * (S1_23h 5 p1.toNatClampNeg)) + (S1_23h 4 (S1_23h 6 4).toNatClampNeg)) - 48))))]) := hD'
          replace hR := bn_e hR
          obtain ⟨S1_71, eS1_71, hR⟩ := hR
          replace hP : va_P (dC, dI) vwCl (fl [(w_X11 ad (b1) cs S1_71)]) H71 := by rw [eS1_71]; exact hP'
          replace hD : va_D A (fl [(w_X11 ad (b1) cs S1_71)]) := by rw [eS1_71]; exact hD'
          clear hP' hD' hS'
          refine lv_aload_n hx hb dX11_number_72 rfl (lv_at hl 0 rfl) ?_
          refine lv_dup hx hb dX11_number_73 rfl ?_
          refine va_get (D := (dC, dI)) (ci := 9) (v := .int (S1_71 6 4)) (C := RX11) (T := TX11) (N := 14) hx hb hts hinX11 hown hK hP 0 rfl rfl 9 (by decide) hF151 (fun _ h9 => h9) rfl dX11_number_74 ?_
          refine lv_iconst (v := 1) hx hb dX11_number_77 ic_1 ?_
          refine lv_iadd hx hb dX11_number_78 ?_
          refine va_put (D := (dC, dI)) (ci := 9) (v := .int ((S1_71 6 4) + 1)) (ty := .int) (C := RX11) (T := TX11) (N := 14) hx hb hts hinX11 tyX11 tyX11_ok nmX11 hown hK hP hD hS 0 rfl rfl 9 (by decide) hF151 (fun _ h9 => h9) rfl (by decide +kernel) rfl rfl (Nat.le_of_ble_eq_true rfl) dX11_number_79 (fun H79 locs79 hP' hD' hS' => ?_)
          replace hS := hS'
          have hP' : va_P (dC, dI) vwCl (fl [(w_X11 ad (b1) cs (sU S1_71 6 (sU (S1_71 6) 4 ((S1_71 6 4) + 1))))]) H79 := hP'
          have hD' : va_D A (fl [(w_X11 ad (b1) cs (sU S1_71 6 (sU (S1_71 6) 4 ((S1_71 6 4) + 1))))]) := hD'
          replace hR := bn_e hR
          obtain ⟨S1_79, eS1_79, hR⟩ := hR
          replace hP : va_P (dC, dI) vwCl (fl [(w_X11 ad (b1) cs S1_79)]) H79 := by rw [eS1_79]; exact hP'
          replace hD : va_D A (fl [(w_X11 ad (b1) cs S1_79)]) := by rw [eS1_79]; exact hD'
          clear hP' hD' hS'
          refine lv_goto (tgt := 23) hx hb dX11_number_82 (by decide) ?_
          exact hI23 S1_79 v2_23 H79 _ ls hR hP hD hS (lv_sub hl [0, 1, 2] rfl)
  refine lv_aload_n hx hb dX11_number_0 rfl (lv_at hl 0 rfl) ?_
  refine lv_bipush (v := 32) hx hb dX11_number_1 bp_32 ?_
  replace hR := bd_e hR
  obtain ⟨q3, gq3, hR⟩ := hR
  refine cl_Vi (As := [.int (32 : Int32)]) (rest := []) (L := [(w_X11 ad (b1) cs S1)]) (L' := [(w_X11 ad (b1) cs q3.2)]) (Wc := [(w_X11 ad (b1) cs S1)]) (Wc' := [(w_X11 ad (b1) cs q3.2)]) (is := [0]) (js := []) ⟨hx, hb, hml, hown, hts⟩ (k_X11_passes l dC dI cs ad (b1) s.heap.size S1 (32 : Int32) q3.1 q3.2 gq3) (cwV 1 hts gX11_number_X11_passes rfl rfl rfl cd_X11_passes ⟨Nat.le_of_ble_eq_true rfl, Nat.le_of_ble_eq_true rfl⟩) hK hP hD hS hA ⟨rfl, rfl, rfl, rfl, rfl, rfl⟩ (jn_nd (is := [0]) hD rfl rfl) 0 9 rfl rfl rfl rfl rfl hl.1 (Nat.le_of_ble_eq_true rfl) dX11_number_3 (fun H3 locs3 hP' hD' hS' => ?_)
  replace hS := hS'
  replace hP : va_P (dC, dI) vwCl (fl [(w_X11 ad (b1) cs q3.2)]) H3 := hP'
  replace hD : va_D A (fl [(w_X11 ad (b1) cs q3.2)]) := hD'
  clear hP' hD' hS'
  refine lv_if_ne (tgt := 11) hx hb dX11_number_6 (by decide) (fun c6 => ?_) (fun c6 => ?_)
  · replace hR := it_f hR c6
    refine lv_aload_n hx hb dX11_number_11 rfl (lv_at hl 0 rfl) ?_
    refine va_get (D := (dC, dI)) (ci := 9) (v := .int (q3.2 6 4)) (C := RX11) (T := TX11) (N := 14) hx hb hts hinX11 hown hK hP 0 rfl rfl 9 (by decide) hF151 (fun _ h9 => h9) rfl dX11_number_12 ?_
    refine lv_istore_n (lv' := [(2, .int (q3.2 6 4)), (0, .ref (ad b1)), (1, .int p1)]) hx hb dX11_number_15 rfl hl (Nat.le_of_ble_eq_true rfl) rfl (fun ls hl => ?_)
    refine lv_aload_n hx hb dX11_number_16 rfl (lv_at hl 1 rfl) ?_
    refine va_get (D := (dC, dI)) (ci := 9) (v := .ref (ad (b1 + 6))) (C := RX11) (T := TX11) (N := 14) hx hb hts hinX11 hown hK hP 0 rfl rfl 13 (by decide) hF25 (fun _ h9 => h9) rfl dX11_number_17 ?_
    refine lv_iload_n hx hb dX11_number_20 rfl (lv_at hl 2 rfl) ?_
    refine lv_iconst (v := 0) hx hb dX11_number_21 ic_0 ?_
    replace hR := gi_e hR
    obtain ⟨i22, hR⟩ := hR
    refine va_iast hx hb hK hP hD hS 6 0 rfl rfl i22 dX11_number_22 (fun H22 locs22 hP' hD' hS' => ?_)
    replace hS := hS'
    have hP' : va_P (dC, dI) vwCl (fl [(w_X11 ad (b1) cs (sU q3.2 5 (sU (q3.2 5) p1.toNatClampNeg (0 : Int32))))]) H22 := hP'
    have hD' : va_D A (fl [(w_X11 ad (b1) cs (sU q3.2 5 (sU (q3.2 5) p1.toNatClampNeg (0 : Int32))))]) := hD'
    replace hR := bn_e hR
    obtain ⟨S1_22, eS1_22, hR⟩ := hR
    replace hP : va_P (dC, dI) vwCl (fl [(w_X11 ad (b1) cs S1_22)]) H22 := by rw [eS1_22]; exact hP'
    replace hD : va_D A (fl [(w_X11 ad (b1) cs S1_22)]) := by rw [eS1_22]; exact hD'
    clear hP' hD' hS'
    exact hB23 fuel S1_22 (q3.2 6 4) H22 _ ls hR hP hD hS (lv_sub hl [1, 2, 0] rfl)
  · replace hR := it_t hR c6
    refine lv_iconst (v := 0) hx hb dX11_number_9 ic_0 ?_
    replace hR := Option.some.inj hR
    obtain ⟨e9, hR⟩ := Prod.mk.inj hR
    have eu1 := hR
    replace hP : va_P (dC, dI) vwCl (fl [(w_X11 ad (b1) cs u1)]) H3 := by rw [← eu1]; exact hP
    replace hD : va_D A (fl [(w_X11 ad (b1) cs u1)]) := by rw [← eu1]; exact hD
    exact W.zret (ty := .boolean) hx hb hr (by decide) (fun t ht hW => ⟨⟨_, (), rfl, e9, by rw [ht]; exact hP, va_K.moved hW.alike hK, hD⟩, hS.F ht⟩) hS.2.2 dX11_number_10
set_option maxHeartbeats 8000000 in
set_option maxRecDepth 100000 in
theorem k_X11_parses (l : Launch) (dC : Nat → ClassId) (dI : Nat → Nat → Nat) (cs : Nat → ClassId) (ad : Nat → Nat) (b1 : Nat) (sz : Nat) (S1 : T2) (r : Int32) (u1 : T2) (hR : fX11_parses S1 = some (r, u1)) : Met l yX11_parses wsX11_parses ({ frames := 4, cells := 0, slots := 0, locals := 88 } : Room) (va_Pc [.ref (ad b1)] (pW dC dI (tyL cs) (fl [(w_X11 ad (b1) cs S1)]) sz)) (QI dC dI (tyL cs) (va_A (fl [(w_X11 ad (b1) cs S1)]) sz) (fl [(w_X11 ad (b1) cs u1)]) r) 0 0 (va_A (fl [(w_X11 ad (b1) cs S1)]) sz) := by
  refine mt_of (own := RX11) (cc := cX11_parses) (maxL := 4) (ret := (some .boolean)) (Qc := fun A => QI dC dI (tyL cs) A (fl [(w_X11 ad (b1) cs u1)]) r) rfl (by decide) rfl (Nat.le_of_ble_eq_true rfl) (fun p e s m below meth c A ls hsz hx hb hr hts hown hlocks hml hA hK hP hD hS hl => ?_)
  subst hsz
  have hl : lv_has ls 4 [(0, .ref (ad b1))] := hl
  have hF22 := hts (.fieldLink RX11 22 "DockedBikesModel" "text" "[I") (List.mem_of_getElem? (i := 3) rfl)
  have hF151 := hts (.fieldLink RX11 151 "DockedBikesModel" "spot" "I") (List.mem_of_getElem? (i := 1) rfl)
  have hF160 := hts (.fieldLink RX11 160 "DockedBikesModel" "word" "I") (List.mem_of_getElem? (i := 2) rfl)
  have hinX11 : ∀ w ∈ wsX110, w ∈ wsX11_parses := by decide +kernel
  have hB200 : ∀ (S1_200h : T2) (H : Heap) (locs : List Loc) (ls : Array Slot), fX11_parses_200 S1_200h = some (r, u1) → va_P (dC, dI) vwCl (fl [(w_X11 ad (b1) cs S1_200h)]) H → va_D A (fl [(w_X11 ad (b1) cs S1_200h)]) → va_S A s.heap H locs → lv_has ls 4 [(0, .ref (ad b1))] → W p l e (headSpec wsX11_parses ({ frames := 4, cells := 0, slots := 0, locals := 88 } : Room)).room s m ([.ref (ad b1)] : List Value).toArray below meth c H locs 0 0 (MQ below (QI dC dI (tyL cs) A (fl [(w_X11 ad (b1) cs u1)]) r) ([.ref (ad b1)] : List Value).toArray s 0 0 A) (F0 m 200 ls []) := by
    intro S1_200h H locs ls hR hP hD hS hl
    refine lv_aload_n hx hb dX11_parses_200 rfl (lv_at hl 0 rfl) ?_
    refine lv_bipush (v := 59) hx hb dX11_parses_201 bp_59 ?_
    replace hR := bd_e hR
    obtain ⟨q203, gq203, hR⟩ := hR
    refine cl_Vi (As := [.int (59 : Int32)]) (rest := []) (L := [(w_X11 ad (b1) cs S1_200h)]) (L' := [(w_X11 ad (b1) cs q203.2)]) (Wc := [(w_X11 ad (b1) cs S1_200h)]) (Wc' := [(w_X11 ad (b1) cs q203.2)]) (is := [0]) (js := []) ⟨hx, hb, hml, hown, hts⟩ (k_X11_passes l dC dI cs ad (b1) H.size S1_200h (59 : Int32) q203.1 q203.2 gq203) (cwV 1 hts gX11_parses_X11_passes rfl rfl rfl cd_X11_passes ⟨Nat.le_of_ble_eq_true rfl, Nat.le_of_ble_eq_true rfl⟩) hK hP hD hS hA ⟨rfl, rfl, rfl, rfl, rfl, rfl⟩ (jn_nd (is := [0]) hD rfl rfl) 0 9 rfl rfl rfl rfl rfl hl.1 (Nat.le_of_ble_eq_true rfl) dX11_parses_203 (fun H203 locs203 hP' hD' hS' => ?_)
    replace hS := hS'
    replace hP : va_P (dC, dI) vwCl (fl [(w_X11 ad (b1) cs q203.2)]) H203 := hP'
    replace hD : va_D A (fl [(w_X11 ad (b1) cs q203.2)]) := hD'
    clear hP' hD' hS'
    refine lv_if_eq (tgt := 213) hx hb dX11_parses_206 (by decide) (fun c206 => ?_) (fun c206 => ?_)
    · replace hR := it_t hR c206
      refine lv_iconst (v := 0) hx hb dX11_parses_213 ic_0 ?_
      replace hR := Option.some.inj hR
      obtain ⟨e9, hR⟩ := Prod.mk.inj hR
      have eu1 := hR
      replace hP : va_P (dC, dI) vwCl (fl [(w_X11 ad (b1) cs u1)]) H203 := by rw [← eu1]; exact hP
      replace hD : va_D A (fl [(w_X11 ad (b1) cs u1)]) := by rw [← eu1]; exact hD
      exact W.zret (ty := .boolean) hx hb hr (by decide) (fun t ht hW => ⟨⟨_, (), rfl, e9, by rw [ht]; exact hP, va_K.moved hW.alike hK, hD⟩, hS.F ht⟩) hS.2.2 dX11_parses_214
    · replace hR := it_f hR c206
      refine lv_iconst (v := 1) hx hb dX11_parses_209 ic_1 ?_
      refine lv_goto (tgt := 214) hx hb dX11_parses_210 (by decide) ?_
      replace hR := Option.some.inj hR
      obtain ⟨e9, hR⟩ := Prod.mk.inj hR
      have eu1 := hR
      replace hP : va_P (dC, dI) vwCl (fl [(w_X11 ad (b1) cs u1)]) H203 := by rw [← eu1]; exact hP
      replace hD : va_D A (fl [(w_X11 ad (b1) cs u1)]) := by rw [← eu1]; exact hD
      exact W.zret (ty := .boolean) hx hb hr (by decide) (fun t ht hW => ⟨⟨_, (), rfl, e9, by rw [ht]; exact hP, va_K.moved hW.alike hK, hD⟩, hS.F ht⟩) hS.2.2 dX11_parses_214
  have hB180 : ∀ (S1_180h : T2) (v2_180 : Int32) (H : Heap) (locs : List Loc) (ls : Array Slot), fX11_parses_180 S1_180h v2_180 = some (r, u1) → va_P (dC, dI) vwCl (fl [(w_X11 ad (b1) cs S1_180h)]) H → va_D A (fl [(w_X11 ad (b1) cs S1_180h)]) → va_S A s.heap H locs → lv_has ls 4 [(0, .ref (ad b1)), (2, .int v2_180)] → W p l e (headSpec wsX11_parses ({ frames := 4, cells := 0, slots := 0, locals := 88 } : Room)).room s m ([.ref (ad b1)] : List Value).toArray below meth c H locs 0 0 (MQ below (QI dC dI (tyL cs) A (fl [(w_X11 ad (b1) cs u1)]) r) ([.ref (ad b1)] : List Value).toArray s 0 0 A) (F0 m 180 ls []) := by
    intro S1_180h v2_180 H locs ls hR hP hD hS hl
    refine lv_aload_n hx hb dX11_parses_180 rfl (lv_at hl 0 rfl) ?_
    refine lv_iconst (v := 0) hx hb dX11_parses_181 ic_0 ?_
    replace hR := bd_e hR
    obtain ⟨q182, gq182, hR⟩ := hR
    refine cl_Vi (As := [.int (0 : Int32)]) (rest := []) (L := [(w_X11 ad (b1) cs S1_180h)]) (L' := [(w_X11 ad (b1) cs q182.2)]) (Wc := [(w_X11 ad (b1) cs S1_180h)]) (Wc' := [(w_X11 ad (b1) cs q182.2)]) (is := [0]) (js := []) ⟨hx, hb, hml, hown, hts⟩ (k_X11_number l dC dI cs ad (b1) H.size S1_180h (0 : Int32) q182.1 q182.2 gq182) (cwV 1 hts gX11_parses_X11_number rfl rfl rfl cd_X11_number ⟨Nat.le_of_ble_eq_true rfl, Nat.le_of_ble_eq_true rfl⟩) hK hP hD hS hA ⟨rfl, rfl, rfl, rfl, rfl, rfl⟩ (jn_nd (is := [0]) hD rfl rfl) 0 9 rfl rfl rfl rfl rfl hl.1 (Nat.le_of_ble_eq_true rfl) dX11_parses_182 (fun H182 locs182 hP' hD' hS' => ?_)
    replace hS := hS'
    replace hP : va_P (dC, dI) vwCl (fl [(w_X11 ad (b1) cs q182.2)]) H182 := hP'
    replace hD : va_D A (fl [(w_X11 ad (b1) cs q182.2)]) := hD'
    clear hP' hD' hS'
    refine lv_if_eq (tgt := 213) hx hb dX11_parses_185 (by decide) (fun c185 => ?_) (fun c185 => ?_)
    · replace hR := it_t hR c185
      refine lv_iconst (v := 0) hx hb dX11_parses_213 ic_0 ?_
      replace hR := Option.some.inj hR
      obtain ⟨e9, hR⟩ := Prod.mk.inj hR
      have eu1 := hR
      replace hP : va_P (dC, dI) vwCl (fl [(w_X11 ad (b1) cs u1)]) H182 := by rw [← eu1]; exact hP
      replace hD : va_D A (fl [(w_X11 ad (b1) cs u1)]) := by rw [← eu1]; exact hD
      exact W.zret (ty := .boolean) hx hb hr (by decide) (fun t ht hW => ⟨⟨_, (), rfl, e9, by rw [ht]; exact hP, va_K.moved hW.alike hK, hD⟩, hS.F ht⟩) hS.2.2 dX11_parses_214
    · replace hR := it_f hR c185
      refine lv_iload_n hx hb dX11_parses_188 rfl (lv_at hl 1 rfl) ?_
      refine lv_if_ne (tgt := 200) hx hb dX11_parses_189 (by decide) (fun c189 => ?_) (fun c189 => ?_)
      · replace hR := it_f hR c189
        exact hB200 q182.2 H182 _ ls hR hP hD hS (lv_sub hl [0] rfl)
      · replace hR := it_t hR c189
        refine lv_aload_n hx hb dX11_parses_192 rfl (lv_at hl 0 rfl) ?_
        refine lv_iconst (v := 1) hx hb dX11_parses_193 ic_1 ?_
        replace hR := bd_e hR
        obtain ⟨q194, gq194, hR⟩ := hR
        refine cl_Vi (As := [.int (1 : Int32)]) (rest := []) (L := [(w_X11 ad (b1) cs q182.2)]) (L' := [(w_X11 ad (b1) cs q194.2)]) (Wc := [(w_X11 ad (b1) cs q182.2)]) (Wc' := [(w_X11 ad (b1) cs q194.2)]) (is := [0]) (js := []) ⟨hx, hb, hml, hown, hts⟩ (k_X11_number l dC dI cs ad (b1) H182.size q182.2 (1 : Int32) q194.1 q194.2 gq194) (cwV 1 hts gX11_parses_X11_number rfl rfl rfl cd_X11_number ⟨Nat.le_of_ble_eq_true rfl, Nat.le_of_ble_eq_true rfl⟩) hK hP hD hS hA ⟨rfl, rfl, rfl, rfl, rfl, rfl⟩ (jn_nd (is := [0]) hD rfl rfl) 0 9 rfl rfl rfl rfl rfl hl.1 (Nat.le_of_ble_eq_true rfl) dX11_parses_194 (fun H194 locs194 hP' hD' hS' => ?_)
        replace hS := hS'
        replace hP : va_P (dC, dI) vwCl (fl [(w_X11 ad (b1) cs q194.2)]) H194 := hP'
        replace hD : va_D A (fl [(w_X11 ad (b1) cs q194.2)]) := hD'
        clear hP' hD' hS'
        refine lv_if_eq (tgt := 213) hx hb dX11_parses_197 (by decide) (fun c197 => ?_) (fun c197 => ?_)
        · replace hR := it_t hR c197
          refine lv_iconst (v := 0) hx hb dX11_parses_213 ic_0 ?_
          replace hR := Option.some.inj hR
          obtain ⟨e9, hR⟩ := Prod.mk.inj hR
          have eu1 := hR
          replace hP : va_P (dC, dI) vwCl (fl [(w_X11 ad (b1) cs u1)]) H194 := by rw [← eu1]; exact hP
          replace hD : va_D A (fl [(w_X11 ad (b1) cs u1)]) := by rw [← eu1]; exact hD
          exact W.zret (ty := .boolean) hx hb hr (by decide) (fun t ht hW => ⟨⟨_, (), rfl, e9, by rw [ht]; exact hP, va_K.moved hW.alike hK, hD⟩, hS.F ht⟩) hS.2.2 dX11_parses_214
        · replace hR := it_f hR c197
          exact hB200 q194.2 H194 _ ls hR hP hD hS (lv_sub hl [0] rfl)
  have hB171 : ∀ (S1_171h : T2) (v2_171 : Int32) (t0_171 : Int32) (H : Heap) (locs : List Loc) (ls : Array Slot), fX11_parses_171 S1_171h v2_171 t0_171 = some (r, u1) → va_P (dC, dI) vwCl (fl [(w_X11 ad (b1) cs S1_171h)]) H → va_D A (fl [(w_X11 ad (b1) cs S1_171h)]) → va_S A s.heap H locs → lv_has ls 4 [(0, .ref (ad b1)), (2, .int v2_171)] → W p l e (headSpec wsX11_parses ({ frames := 4, cells := 0, slots := 0, locals := 88 } : Room)).room s m ([.ref (ad b1)] : List Value).toArray below meth c H locs 0 0 (MQ below (QI dC dI (tyL cs) A (fl [(w_X11 ad (b1) cs u1)]) r) ([.ref (ad b1)] : List Value).toArray s 0 0 A) (F0 m 171 ls [.int t0_171]) := by
    intro S1_171h v2_171 t0_171 H locs ls hR hP hD hS hl
    refine lv_istore_n (lv' := [(3, .int t0_171), (0, .ref (ad b1)), (2, .int v2_171)]) hx hb dX11_parses_171 rfl hl (Nat.le_of_ble_eq_true rfl) rfl (fun ls hl => ?_)
    refine lv_iload_n hx hb dX11_parses_172 rfl (lv_at hl 2 rfl) ?_
    refine lv_if_ne (tgt := 180) hx hb dX11_parses_173 (by decide) (fun c173 => ?_) (fun c173 => ?_)
    · replace hR := it_f hR c173
      exact hB180 S1_171h v2_171 H _ ls hR hP hD hS (lv_sub hl [1, 2] rfl)
    · replace hR := it_t hR c173
      refine lv_iload_n hx hb dX11_parses_176 rfl (lv_at hl 0 rfl) ?_
      refine lv_if_eq (tgt := 213) hx hb dX11_parses_177 (by decide) (fun c177 => ?_) (fun c177 => ?_)
      · replace hR := it_t hR c177
        refine lv_iconst (v := 0) hx hb dX11_parses_213 ic_0 ?_
        replace hR := Option.some.inj hR
        obtain ⟨e9, hR⟩ := Prod.mk.inj hR
        have eu1 := hR
        replace hP : va_P (dC, dI) vwCl (fl [(w_X11 ad (b1) cs u1)]) H := by rw [← eu1]; exact hP
        replace hD : va_D A (fl [(w_X11 ad (b1) cs u1)]) := by rw [← eu1]; exact hD
        exact W.zret (ty := .boolean) hx hb hr (by decide) (fun t ht hW => ⟨⟨_, (), rfl, e9, by rw [ht]; exact hP, va_K.moved hW.alike hK, hD⟩, hS.F ht⟩) hS.2.2 dX11_parses_214
      · replace hR := it_f hR c177
        exact hB180 S1_171h v2_171 H _ ls hR hP hD hS (lv_sub hl [1, 2] rfl)
  have hB166 : ∀ (S1_166h : T2) (v2_166 : Int32) (H : Heap) (locs : List Loc) (ls : Array Slot), fX11_parses_166 S1_166h v2_166 = some (r, u1) → va_P (dC, dI) vwCl (fl [(w_X11 ad (b1) cs S1_166h)]) H → va_D A (fl [(w_X11 ad (b1) cs S1_166h)]) → va_S A s.heap H locs → lv_has ls 4 [(0, .ref (ad b1)), (2, .int v2_166)] → W p l e (headSpec wsX11_parses ({ frames := 4, cells := 0, slots := 0, locals := 88 } : Room)).room s m ([.ref (ad b1)] : List Value).toArray below meth c H locs 0 0 (MQ below (QI dC dI (tyL cs) A (fl [(w_X11 ad (b1) cs u1)]) r) ([.ref (ad b1)] : List Value).toArray s 0 0 A) (F0 m 166 ls []) := by
    intro S1_166h v2_166 H locs ls hR hP hD hS hl
    refine lv_iconst (v := 1) hx hb dX11_parses_166 ic_1 ?_
    refine lv_goto (tgt := 171) hx hb dX11_parses_167 (by decide) ?_
    exact hB171 S1_166h v2_166 (1 : Int32) H _ ls hR hP hD hS (lv_sub hl [0, 1] rfl)
  have hB100 : ∀ (S1_100h : T2) (t0_100 : Int32) (H : Heap) (locs : List Loc) (ls : Array Slot), fX11_parses_100 S1_100h t0_100 = some (r, u1) → va_P (dC, dI) vwCl (fl [(w_X11 ad (b1) cs S1_100h)]) H → va_D A (fl [(w_X11 ad (b1) cs S1_100h)]) → va_S A s.heap H locs → lv_has ls 4 [(0, .ref (ad b1))] → W p l e (headSpec wsX11_parses ({ frames := 4, cells := 0, slots := 0, locals := 88 } : Room)).room s m ([.ref (ad b1)] : List Value).toArray below meth c H locs 0 0 (MQ below (QI dC dI (tyL cs) A (fl [(w_X11 ad (b1) cs u1)]) r) ([.ref (ad b1)] : List Value).toArray s 0 0 A) (F0 m 100 ls [.int t0_100]) := by
    intro S1_100h t0_100 H locs ls hR hP hD hS hl
    refine lv_istore_n (lv' := [(2, .int t0_100), (0, .ref (ad b1))]) hx hb dX11_parses_100 rfl hl (Nat.le_of_ble_eq_true rfl) rfl (fun ls hl => ?_)
    refine lv_aload_n hx hb dX11_parses_101 rfl (lv_at hl 1 rfl) ?_
    refine va_get (D := (dC, dI)) (ci := 9) (v := .int (S1_100h 6 7)) (C := RX11) (T := TX11) (N := 14) hx hb hts hinX11 hown hK hP 0 rfl rfl 12 (by decide) hF160 (fun _ h9 => h9) rfl dX11_parses_102 ?_
    refine lv_ldc (v := 595412) hx hb hown (hts (.constant RX11 166 (595412)) (List.mem_of_getElem? (i := 7) rfl)) dX11_parses_105 ?_
    refine lv_icmp_eq (tgt := 166) hx hb dX11_parses_107 (by decide) (fun c107 => ?_) (fun c107 => ?_)
    · replace hR := it_t hR c107
      exact hB166 S1_100h t0_100 H _ ls hR hP hD hS (lv_sub hl [1, 0] rfl)
    · replace hR := it_f hR c107
      refine lv_aload_n hx hb dX11_parses_110 rfl (lv_at hl 1 rfl) ?_
      refine va_get (D := (dC, dI)) (ci := 9) (v := .int (S1_100h 6 7)) (C := RX11) (T := TX11) (N := 14) hx hb hts hinX11 hown hK hP 0 rfl rfl 12 (by decide) hF160 (fun _ h9 => h9) rfl dX11_parses_111 ?_
      refine lv_ldc (v := 66667) hx hb hown (hts (.constant RX11 167 (66667)) (List.mem_of_getElem? (i := 8) rfl)) dX11_parses_114 ?_
      refine lv_icmp_eq (tgt := 166) hx hb dX11_parses_116 (by decide) (fun c116 => ?_) (fun c116 => ?_)
      · replace hR := it_t hR c116
        exact hB166 S1_100h t0_100 H _ ls hR hP hD hS (lv_sub hl [1, 0] rfl)
      · replace hR := it_f hR c116
        refine lv_aload_n hx hb dX11_parses_119 rfl (lv_at hl 1 rfl) ?_
        refine va_get (D := (dC, dI)) (ci := 9) (v := .int (S1_100h 6 7)) (C := RX11) (T := TX11) (N := 14) hx hb hts hinX11 hown hK hP 0 rfl rfl 12 (by decide) hF160 (fun _ h9 => h9) rfl dX11_parses_120 ?_
        refine lv_ldc (v := 218508) hx hb hown (hts (.constant RX11 168 (218508)) (List.mem_of_getElem? (i := 9) rfl)) dX11_parses_123 ?_
        refine lv_icmp_eq (tgt := 166) hx hb dX11_parses_125 (by decide) (fun c125 => ?_) (fun c125 => ?_)
        · replace hR := it_t hR c125
          exact hB166 S1_100h t0_100 H _ ls hR hP hD hS (lv_sub hl [1, 0] rfl)
        · replace hR := it_f hR c125
          refine lv_aload_n hx hb dX11_parses_128 rfl (lv_at hl 1 rfl) ?_
          refine va_get (D := (dC, dI)) (ci := 9) (v := .int (S1_100h 6 7)) (C := RX11) (T := TX11) (N := 14) hx hb hts hinX11 hown hK hP 0 rfl rfl 12 (by decide) hF160 (fun _ h9 => h9) rfl dX11_parses_129 ?_
          refine lv_ldc (v := 656741) hx hb hown (hts (.constant RX11 169 (656741)) (List.mem_of_getElem? (i := 10) rfl)) dX11_parses_132 ?_
          refine lv_icmp_eq (tgt := 166) hx hb dX11_parses_134 (by decide) (fun c134 => ?_) (fun c134 => ?_)
          · replace hR := it_t hR c134
            exact hB166 S1_100h t0_100 H _ ls hR hP hD hS (lv_sub hl [1, 0] rfl)
          · replace hR := it_f hR c134
            refine lv_aload_n hx hb dX11_parses_137 rfl (lv_at hl 1 rfl) ?_
            refine va_get (D := (dC, dI)) (ci := 9) (v := .int (S1_100h 6 7)) (C := RX11) (T := TX11) (N := 14) hx hb hts hinX11 hown hK hP 0 rfl rfl 12 (by decide) hF160 (fun _ h9 => h9) rfl dX11_parses_138 ?_
            refine lv_sipush (v := 17076) hx hb dX11_parses_141 sp_17076 ?_
            refine lv_icmp_eq (tgt := 166) hx hb dX11_parses_144 (by decide) (fun c144 => ?_) (fun c144 => ?_)
            · replace hR := it_t hR c144
              exact hB166 S1_100h t0_100 H _ ls hR hP hD hS (lv_sub hl [1, 0] rfl)
            · replace hR := it_f hR c144
              refine lv_aload_n hx hb dX11_parses_147 rfl (lv_at hl 1 rfl) ?_
              refine va_get (D := (dC, dI)) (ci := 9) (v := .int (S1_100h 6 7)) (C := RX11) (T := TX11) (N := 14) hx hb hts hinX11 hown hK hP 0 rfl rfl 12 (by decide) hF160 (fun _ h9 => h9) rfl dX11_parses_148 ?_
              refine lv_sipush (v := 239) hx hb dX11_parses_151 sp_239 ?_
              refine lv_icmp_eq (tgt := 166) hx hb dX11_parses_154 (by decide) (fun c154 => ?_) (fun c154 => ?_)
              · replace hR := it_t hR c154
                exact hB166 S1_100h t0_100 H _ ls hR hP hD hS (lv_sub hl [1, 0] rfl)
              · replace hR := it_f hR c154
                refine lv_aload_n hx hb dX11_parses_157 rfl (lv_at hl 1 rfl) ?_
                refine va_get (D := (dC, dI)) (ci := 9) (v := .int (S1_100h 6 7)) (C := RX11) (T := TX11) (N := 14) hx hb hts hinX11 hown hK hP 0 rfl rfl 12 (by decide) hF160 (fun _ h9 => h9) rfl dX11_parses_158 ?_
                refine lv_ldc (v := 431556) hx hb hown (hts (.constant RX11 170 (431556)) (List.mem_of_getElem? (i := 11) rfl)) dX11_parses_161 ?_
                refine lv_icmp_ne (tgt := 170) hx hb dX11_parses_163 (by decide) (fun c163 => ?_) (fun c163 => ?_)
                · replace hR := it_f hR c163
                  refine lv_iconst (v := 0) hx hb dX11_parses_170 ic_0 ?_
                  exact hB171 S1_100h t0_100 (0 : Int32) H _ ls hR hP hD hS (lv_sub hl [1, 0] rfl)
                · replace hR := it_t hR c163
                  exact hB166 S1_100h t0_100 H _ ls hR hP hD hS (lv_sub hl [1, 0] rfl)
  have hB95 : ∀ (S1_95h : T2) (H : Heap) (locs : List Loc) (ls : Array Slot), fX11_parses_95 S1_95h = some (r, u1) → va_P (dC, dI) vwCl (fl [(w_X11 ad (b1) cs S1_95h)]) H → va_D A (fl [(w_X11 ad (b1) cs S1_95h)]) → va_S A s.heap H locs → lv_has ls 4 [(0, .ref (ad b1))] → W p l e (headSpec wsX11_parses ({ frames := 4, cells := 0, slots := 0, locals := 88 } : Room)).room s m ([.ref (ad b1)] : List Value).toArray below meth c H locs 0 0 (MQ below (QI dC dI (tyL cs) A (fl [(w_X11 ad (b1) cs u1)]) r) ([.ref (ad b1)] : List Value).toArray s 0 0 A) (F0 m 95 ls []) := by
    intro S1_95h H locs ls hR hP hD hS hl
    refine lv_iconst (v := 1) hx hb dX11_parses_95 ic_1 ?_
    refine lv_goto (tgt := 100) hx hb dX11_parses_96 (by decide) ?_
    exact hB100 S1_95h (1 : Int32) H _ ls hR hP hD hS (lv_sub hl [0] rfl)
  have hB68 : ∀ (S1_68h : T2) (H : Heap) (locs : List Loc) (ls : Array Slot), fX11_parses_68 S1_68h = some (r, u1) → va_P (dC, dI) vwCl (fl [(w_X11 ad (b1) cs S1_68h)]) H → va_D A (fl [(w_X11 ad (b1) cs S1_68h)]) → va_S A s.heap H locs → lv_has ls 4 [(0, .ref (ad b1))] → W p l e (headSpec wsX11_parses ({ frames := 4, cells := 0, slots := 0, locals := 88 } : Room)).room s m ([.ref (ad b1)] : List Value).toArray below meth c H locs 0 0 (MQ below (QI dC dI (tyL cs) A (fl [(w_X11 ad (b1) cs u1)]) r) ([.ref (ad b1)] : List Value).toArray s 0 0 A) (F0 m 68 ls []) := by
    intro S1_68h H locs ls hR hP hD hS hl
    refine lv_aload_n hx hb dX11_parses_68 rfl (lv_at hl 0 rfl) ?_
    refine va_get (D := (dC, dI)) (ci := 9) (v := .int (S1_68h 6 7)) (C := RX11) (T := TX11) (N := 14) hx hb hts hinX11 hown hK hP 0 rfl rfl 12 (by decide) hF160 (fun _ h9 => h9) rfl dX11_parses_69 ?_
    refine lv_ldc (v := 6346132) hx hb hown (hts (.constant RX11 163 (6346132)) (List.mem_of_getElem? (i := 4) rfl)) dX11_parses_72 ?_
    refine lv_icmp_eq (tgt := 95) hx hb dX11_parses_74 (by decide) (fun c74 => ?_) (fun c74 => ?_)
    · replace hR := it_t hR c74
      exact hB95 S1_68h H _ ls hR hP hD hS (lv_sub hl [0] rfl)
    · replace hR := it_f hR c74
      refine lv_aload_n hx hb dX11_parses_77 rfl (lv_at hl 0 rfl) ?_
      refine va_get (D := (dC, dI)) (ci := 9) (v := .int (S1_68h 6 7)) (C := RX11) (T := TX11) (N := 14) hx hb hts hinX11 hown hK hP 0 rfl rfl 12 (by decide) hF160 (fun _ h9 => h9) rfl dX11_parses_78 ?_
      refine lv_ldc (v := 525939) hx hb hown (hts (.constant RX11 164 (525939)) (List.mem_of_getElem? (i := 5) rfl)) dX11_parses_81 ?_
      refine lv_icmp_eq (tgt := 95) hx hb dX11_parses_83 (by decide) (fun c83 => ?_) (fun c83 => ?_)
      · replace hR := it_t hR c83
        exact hB95 S1_68h H _ ls hR hP hD hS (lv_sub hl [0] rfl)
      · replace hR := it_f hR c83
        refine lv_aload_n hx hb dX11_parses_86 rfl (lv_at hl 0 rfl) ?_
        refine va_get (D := (dC, dI)) (ci := 9) (v := .int (S1_68h 6 7)) (C := RX11) (T := TX11) (N := 14) hx hb hts hinX11 hown hK hP 0 rfl rfl 12 (by decide) hF160 (fun _ h9 => h9) rfl dX11_parses_87 ?_
        refine lv_ldc (v := 754996) hx hb hown (hts (.constant RX11 165 (754996)) (List.mem_of_getElem? (i := 6) rfl)) dX11_parses_90 ?_
        refine lv_icmp_ne (tgt := 99) hx hb dX11_parses_92 (by decide) (fun c92 => ?_) (fun c92 => ?_)
        · replace hR := it_f hR c92
          refine lv_iconst (v := 0) hx hb dX11_parses_99 ic_0 ?_
          exact hB100 S1_68h (0 : Int32) H _ ls hR hP hD hS (lv_sub hl [0] rfl)
        · replace hR := it_t hR c92
          exact hB95 S1_68h H _ ls hR hP hD hS (lv_sub hl [0] rfl)
  have hB10 : ∀ (n10 : Nat), ∀ (S1_10h : T2) (v1_10 : Int32) (H : Heap) (locs : List Loc) (ls : Array Slot), fX11_parses_10 n10 S1_10h v1_10 = some (r, u1) → va_P (dC, dI) vwCl (fl [(w_X11 ad (b1) cs S1_10h)]) H → va_D A (fl [(w_X11 ad (b1) cs S1_10h)]) → va_S A s.heap H locs → lv_has ls 4 [(0, .ref (ad b1)), (1, .int v1_10)] → W p l e (headSpec wsX11_parses ({ frames := 4, cells := 0, slots := 0, locals := 88 } : Room)).room s m ([.ref (ad b1)] : List Value).toArray below meth c H locs 0 0 (MQ below (QI dC dI (tyL cs) A (fl [(w_X11 ad (b1) cs u1)]) r) ([.ref (ad b1)] : List Value).toArray s 0 0 A) (F0 m 10 ls []) := by
    intro n10
    induction n10 with
    | zero =>
      intro S1_10h v1_10 H locs ls hR hP hD hS hl
      exact nn_e hR
    | succ n10 hI10 =>
      intro S1_10h v1_10 H locs ls hR hP hD hS hl
      rw [fX11_parses_10] at hR
      refine lv_aload_n hx hb dX11_parses_10 rfl (lv_at hl 0 rfl) ?_
      refine lv_bipush (v := 97) hx hb dX11_parses_11 bp_97 ?_
      refine lv_bipush (v := 122) hx hb dX11_parses_13 bp_122 ?_
      replace hR := bd_e hR
      obtain ⟨q15, gq15, hR⟩ := hR
      refine cl_Vi (As := [.int (97 : Int32), .int (122 : Int32)]) (rest := []) (L := [(w_X11 ad (b1) cs S1_10h)]) (L' := [(w_X11 ad (b1) cs S1_10h)]) (Wc := [(w_X11 ad (b1) cs S1_10h)]) (Wc' := [(w_X11 ad (b1) cs S1_10h)]) (is := [0]) (js := []) ⟨hx, hb, hml, hown, hts⟩ (k_X11_isAt_ l dC dI cs ad (b1) H.size S1_10h (97 : Int32) (122 : Int32) q15 gq15) (cwV 2 hts gX11_parses_X11_isAt_ rfl rfl rfl cd_X11_isAt_ ⟨Nat.le_of_ble_eq_true rfl, Nat.le_of_ble_eq_true rfl⟩) hK hP hD hS hA ⟨rfl, rfl, rfl, rfl, rfl, rfl⟩ (jn_nd (is := [0]) hD rfl rfl) 0 9 rfl rfl rfl rfl rfl hl.1 (Nat.le_of_ble_eq_true rfl) dX11_parses_15 (fun H15 locs15 hP' hD' hS' => ?_)
      replace hS := hS'
      replace hP : va_P (dC, dI) vwCl (fl [(w_X11 ad (b1) cs S1_10h)]) H15 := hP'
      replace hD : va_D A (fl [(w_X11 ad (b1) cs S1_10h)]) := hD'
      clear hP' hD' hS'
      refine lv_if_eq (tgt := 68) hx hb dX11_parses_18 (by decide) (fun c18 => ?_) (fun c18 => ?_)
      · replace hR := it_t hR c18
        exact hB68 S1_10h H15 _ ls hR hP hD hS (lv_sub hl [0] rfl)
      · replace hR := it_f hR c18
        refine lv_aload_n hx hb dX11_parses_21 rfl (lv_at hl 0 rfl) ?_
        refine va_get (D := (dC, dI)) (ci := 9) (v := .int (S1_10h 6 4)) (C := RX11) (T := TX11) (N := 14) hx hb hts hinX11 hown hK hP 0 rfl rfl 9 (by decide) hF151 (fun _ h9 => h9) rfl dX11_parses_22 ?_
        refine lv_iload_n hx hb dX11_parses_25 rfl (lv_at hl 1 rfl) ?_
        refine lv_isub hx hb dX11_parses_26 ?_
        refine lv_iconst (v := 5) hx hb dX11_parses_27 ic_5 ?_
        refine lv_icmp_ge (tgt := 68) hx hb dX11_parses_28 (by decide) (fun c28 => ?_) (fun c28 => ?_)
        · replace hR := it_t hR c28
          exact hB68 S1_10h H15 _ ls hR hP hD hS (lv_sub hl [0] rfl)
        · replace hR := it_f hR c28
          refine lv_aload_n hx hb dX11_parses_31 rfl (lv_at hl 0 rfl) ?_
          refine lv_bipush (v := 32) hx hb dX11_parses_32 bp_32 ?_
          refine lv_aload_n hx hb dX11_parses_34 rfl (lv_at hl 0 rfl) ?_
          refine va_get (D := (dC, dI)) (ci := 9) (v := .int (S1_10h 6 7)) (C := RX11) (T := TX11) (N := 14) hx hb hts hinX11 hown hK hP 0 rfl rfl 12 (by decide) hF160 (fun _ h9 => h9) rfl dX11_parses_35 ?_
          refine lv_imul hx hb dX11_parses_38 ?_
          refine lv_aload_n hx hb dX11_parses_39 rfl (lv_at hl 0 rfl) ?_
          refine va_get (D := (dC, dI)) (ci := 9) (v := .ref (ad (b1 + 5))) (C := RX11) (T := TX11) (N := 14) hx hb hts hinX11 hown hK hP 0 rfl rfl 7 (by decide) hF22 (fun _ h9 => h9) rfl dX11_parses_40 ?_
          refine lv_aload_n hx hb dX11_parses_43 rfl (lv_at hl 0 rfl) ?_
          refine va_get (D := (dC, dI)) (ci := 9) (v := .int (S1_10h 6 4)) (C := RX11) (T := TX11) (N := 14) hx hb hts hinX11 hown hK hP 0 rfl rfl 9 (by decide) hF151 (fun _ h9 => h9) rfl dX11_parses_44 ?_
          replace hR := gi_e hR
          obtain ⟨i47, hR⟩ := hR
          refine va_iald hx hb hK hP 5 0 rfl rfl i47 dX11_parses_47 ?_
          refine lv_iadd hx hb dX11_parses_48 ?_
          refine lv_bipush (v := 96) hx hb dX11_parses_49 bp_96 ?_
          refine lv_isub hx hb dX11_parses_51 ?_
          refine va_put (D := (dC, dI)) (ci := 9) (v := .int ((((32 : Int32) * (S1_10h 6 7)) + (S1_10h 4 (S1_10h 6 4).toNatClampNeg)) - 96)) (ty := .int) (C := RX11) (T := TX11) (N := 14) hx hb hts hinX11 tyX11 tyX11_ok nmX11 hown hK hP hD hS 0 rfl rfl 12 (by decide) hF160 (fun _ h9 => h9) rfl (by decide +kernel) rfl rfl (Nat.le_of_ble_eq_true rfl) dX11_parses_52 (fun H52 locs52 hP' hD' hS' => ?_)
          replace hS := hS'
          have hP' : va_P (dC, dI) vwCl (fl [(w_X11 ad (b1) cs (sU S1_10h 6 (sU (S1_10h 6) 7 ((((32 : Int32) * (S1_10h 6 7)) + (S1_10h 4 (S1_10h 6 4).toNatClampNeg)) - 96))))]) H52 := hP'
          have hD' : va_D A (fl [(w_X11 ad (b1) cs (sU S1_10h 6 (sU (S1_10h 6) 7 ((((32 : Int32) * (S1_10h 6 7)) + (S1_10h 4 (S1_10h 6 4).toNatClampNeg)) - 96))))]) := hD'
          replace hR := bn_e hR
          obtain ⟨S1_52, eS1_52, hR⟩ := hR
          replace hP : va_P (dC, dI) vwCl (fl [(w_X11 ad (b1) cs S1_52)]) H52 := by rw [eS1_52]; exact hP'
          replace hD : va_D A (fl [(w_X11 ad (b1) cs S1_52)]) := by rw [eS1_52]; exact hD'
          clear hP' hD' hS'
          refine lv_aload_n hx hb dX11_parses_55 rfl (lv_at hl 0 rfl) ?_
          refine lv_dup hx hb dX11_parses_56 rfl ?_
          refine va_get (D := (dC, dI)) (ci := 9) (v := .int (S1_52 6 4)) (C := RX11) (T := TX11) (N := 14) hx hb hts hinX11 hown hK hP 0 rfl rfl 9 (by decide) hF151 (fun _ h9 => h9) rfl dX11_parses_57 ?_
          refine lv_iconst (v := 1) hx hb dX11_parses_60 ic_1 ?_
          refine lv_iadd hx hb dX11_parses_61 ?_
          refine va_put (D := (dC, dI)) (ci := 9) (v := .int ((S1_52 6 4) + 1)) (ty := .int) (C := RX11) (T := TX11) (N := 14) hx hb hts hinX11 tyX11 tyX11_ok nmX11 hown hK hP hD hS 0 rfl rfl 9 (by decide) hF151 (fun _ h9 => h9) rfl (by decide +kernel) rfl rfl (Nat.le_of_ble_eq_true rfl) dX11_parses_62 (fun H62 locs62 hP' hD' hS' => ?_)
          replace hS := hS'
          have hP' : va_P (dC, dI) vwCl (fl [(w_X11 ad (b1) cs (sU S1_52 6 (sU (S1_52 6) 4 ((S1_52 6 4) + 1))))]) H62 := hP'
          have hD' : va_D A (fl [(w_X11 ad (b1) cs (sU S1_52 6 (sU (S1_52 6) 4 ((S1_52 6 4) + 1))))]) := hD'
          replace hR := bn_e hR
          obtain ⟨S1_62, eS1_62, hR⟩ := hR
          replace hP : va_P (dC, dI) vwCl (fl [(w_X11 ad (b1) cs S1_62)]) H62 := by rw [eS1_62]; exact hP'
          replace hD : va_D A (fl [(w_X11 ad (b1) cs S1_62)]) := by rw [eS1_62]; exact hD'
          clear hP' hD' hS'
          refine lv_goto (tgt := 10) hx hb dX11_parses_65 (by decide) ?_
          exact hI10 S1_62 v1_10 H62 _ ls hR hP hD hS (lv_sub hl [0, 1] rfl)
  refine lv_aload_n hx hb dX11_parses_0 rfl (lv_at hl 0 rfl) ?_
  refine va_get (D := (dC, dI)) (ci := 9) (v := .int (S1 6 4)) (C := RX11) (T := TX11) (N := 14) hx hb hts hinX11 hown hK hP 0 rfl rfl 9 (by decide) hF151 (fun _ h9 => h9) rfl dX11_parses_1 ?_
  refine lv_istore_n (lv' := [(1, .int (S1 6 4)), (0, .ref (ad b1))]) hx hb dX11_parses_4 rfl hl (Nat.le_of_ble_eq_true rfl) rfl (fun ls hl => ?_)
  refine lv_aload_n hx hb dX11_parses_5 rfl (lv_at hl 1 rfl) ?_
  refine lv_iconst (v := 0) hx hb dX11_parses_6 ic_0 ?_
  refine va_put (D := (dC, dI)) (ci := 9) (v := .int (0 : Int32)) (ty := .int) (C := RX11) (T := TX11) (N := 14) hx hb hts hinX11 tyX11 tyX11_ok nmX11 hown hK hP hD hS 0 rfl rfl 12 (by decide) hF160 (fun _ h9 => h9) rfl (by decide +kernel) rfl rfl (Nat.le_of_ble_eq_true rfl) dX11_parses_7 (fun H7 locs7 hP' hD' hS' => ?_)
  replace hS := hS'
  have hP' : va_P (dC, dI) vwCl (fl [(w_X11 ad (b1) cs (sU S1 6 (sU (S1 6) 7 (0 : Int32))))]) H7 := hP'
  have hD' : va_D A (fl [(w_X11 ad (b1) cs (sU S1 6 (sU (S1 6) 7 (0 : Int32))))]) := hD'
  replace hR := bn_e hR
  obtain ⟨S1_7, eS1_7, hR⟩ := hR
  replace hP : va_P (dC, dI) vwCl (fl [(w_X11 ad (b1) cs S1_7)]) H7 := by rw [eS1_7]; exact hP'
  replace hD : va_D A (fl [(w_X11 ad (b1) cs S1_7)]) := by rw [eS1_7]; exact hD'
  clear hP' hD' hS'
  exact hB10 fuel S1_7 (S1 6 4) H7 _ ls hR hP hD hS (lv_sub hl [1, 0] rfl)
set_option maxHeartbeats 8000000 in
set_option maxRecDepth 100000 in
theorem k_X11_calls (l : Launch) (dC : Nat → ClassId) (dI : Nat → Nat → Nat) (cs : Nat → ClassId) (ad : Nat → Nat) (b1 : Nat) (sz : Nat) (S1 : T2) (r : Int32) (u1 : T2) (hR : fX11_calls S1 = some (r, u1)) : Met l yX11_calls wsX11_calls ({ frames := 7, cells := 0, slots := 0, locals := 156 } : Room) (va_Pc [.ref (ad b1)] (pW dC dI (tyL cs) (fl [(w_X11 ad (b1) cs S1)]) sz)) (QI dC dI (tyL cs) (va_A (fl [(w_X11 ad (b1) cs S1)]) sz) (fl [(w_X11 ad (b1) cs u1)]) r) 0 0 (va_A (fl [(w_X11 ad (b1) cs S1)]) sz) := by
  refine mt_of (own := RX11) (cc := cX11_calls) (maxL := 3) (ret := (some .int)) (Qc := fun A => QI dC dI (tyL cs) A (fl [(w_X11 ad (b1) cs u1)]) r) rfl (by decide) rfl (Nat.le_of_ble_eq_true rfl) (fun p e s m below meth c A ls hsz hx hb hr hts hown hlocks hml hA hK hP hD hS hl => ?_)
  subst hsz
  have hl : lv_has ls 3 [(0, .ref (ad b1))] := hl
  have hF25 := hts (.fieldLink RX11 25 "DockedBikesModel" "told" "[I") (List.mem_of_getElem? (i := 1) rfl)
  have hF160 := hts (.fieldLink RX11 160 "DockedBikesModel" "word" "I") (List.mem_of_getElem? (i := 2) rfl)
  have hinX11 : ∀ w ∈ wsX110, w ∈ wsX11_calls := by decide +kernel
  refine lv_aload_n hx hb dX11_calls_0 rfl (lv_at hl 0 rfl) ?_
  refine va_get (D := (dC, dI)) (ci := 9) (v := .ref (ad (b1 + 6))) (C := RX11) (T := TX11) (N := 14) hx hb hts hinX11 hown hK hP 0 rfl rfl 13 (by decide) hF25 (fun _ h9 => h9) rfl dX11_calls_1 ?_
  refine lv_iconst (v := 0) hx hb dX11_calls_4 ic_0 ?_
  refine va_iald hx hb hK hP 6 0 rfl rfl vi_0_2 dX11_calls_5 ?_
  refine lv_istore_n (lv' := [(1, .int (S1 5 (0 : Int32).toNatClampNeg)), (0, .ref (ad b1))]) hx hb dX11_calls_6 rfl hl (Nat.le_of_ble_eq_true rfl) rfl (fun ls hl => ?_)
  refine lv_aload_n hx hb dX11_calls_7 rfl (lv_at hl 1 rfl) ?_
  refine va_get (D := (dC, dI)) (ci := 9) (v := .ref (ad (b1 + 6))) (C := RX11) (T := TX11) (N := 14) hx hb hts hinX11 hown hK hP 0 rfl rfl 13 (by decide) hF25 (fun _ h9 => h9) rfl dX11_calls_8 ?_
  refine lv_iconst (v := 1) hx hb dX11_calls_11 ic_1 ?_
  refine va_iald hx hb hK hP 6 0 rfl rfl vi_1_2 dX11_calls_12 ?_
  refine lv_istore_n (lv' := [(2, .int (S1 5 (1 : Int32).toNatClampNeg)), (1, .int (S1 5 (0 : Int32).toNatClampNeg)), (0, .ref (ad b1))]) hx hb dX11_calls_13 rfl hl (Nat.le_of_ble_eq_true rfl) rfl (fun ls hl => ?_)
  refine lv_aload_n hx hb dX11_calls_14 rfl (lv_at hl 2 rfl) ?_
  refine va_get (D := (dC, dI)) (ci := 9) (v := .int (S1 6 7)) (C := RX11) (T := TX11) (N := 14) hx hb hts hinX11 hown hK hP 0 rfl rfl 12 (by decide) hF160 (fun _ h9 => h9) rfl dX11_calls_15 ?_
  by_cases c18_0 : (S1 6 7) = 239
  · replace hR := it_t hR c18_0
    refine lv_lookup (off := 123) (tgt := 141) hx hb dX11_calls_18 (by decide) (by rw [c18_0]; decide +kernel) (by decide) ?_
    refine lv_aload_n hx hb dX11_calls_141 rfl (lv_at hl 2 rfl) ?_
    refine lv_iload_n hx hb dX11_calls_142 rfl (lv_at hl 1 rfl) ?_
    refine lv_iload_n hx hb dX11_calls_143 rfl (lv_at hl 0 rfl) ?_
    replace hR := bd_e hR
    obtain ⟨q144, gq144, hR⟩ := hR
    refine cl_Vi (As := [.int (S1 5 (0 : Int32).toNatClampNeg), .int (S1 5 (1 : Int32).toNatClampNeg)]) (rest := []) (L := [(w_X11 ad (b1) cs S1)]) (L' := [(w_X11 ad (b1) cs q144.2)]) (Wc := [(w_X11 ad (b1) cs S1)]) (Wc' := [(w_X11 ad (b1) cs q144.2)]) (is := [0]) (js := []) ⟨hx, hb, hml, hown, hts⟩ (k_X11_go l dC dI cs ad (b1) s.heap.size S1 (S1 5 (0 : Int32).toNatClampNeg) (S1 5 (1 : Int32).toNatClampNeg) q144.1 q144.2 gq144) (cwV 2 hts gX11_calls_X11_go rfl rfl rfl cd_X11_go ⟨Nat.le_of_ble_eq_true rfl, Nat.le_of_ble_eq_true rfl⟩) hK hP hD hS hA ⟨rfl, rfl, rfl, rfl, rfl, rfl⟩ (jn_nd (is := [0]) hD rfl rfl) 0 9 rfl rfl rfl rfl rfl hl.1 (Nat.le_of_ble_eq_true rfl) dX11_calls_144 (fun H144 locs144 hP' hD' hS' => ?_)
    replace hS := hS'
    replace hP : va_P (dC, dI) vwCl (fl [(w_X11 ad (b1) cs q144.2)]) H144 := hP'
    replace hD : va_D A (fl [(w_X11 ad (b1) cs q144.2)]) := hD'
    clear hP' hD' hS'
    replace hR := Option.some.inj hR
    obtain ⟨e9, hR⟩ := Prod.mk.inj hR
    have eu1 := hR
    replace hP : va_P (dC, dI) vwCl (fl [(w_X11 ad (b1) cs u1)]) H144 := by rw [← eu1]; exact hP
    replace hD : va_D A (fl [(w_X11 ad (b1) cs u1)]) := by rw [← eu1]; exact hD
    exact W.iret hx hb hr (fun t ht hW => ⟨⟨_, (), rfl, e9, by rw [ht]; exact hP, va_K.moved hW.alike hK, hD⟩, hS.F ht⟩) hS.2.2 dX11_calls_147
  · replace hR := it_f hR c18_0
    by_cases c18_1 : (S1 6 7) = 17076
    · replace hR := it_t hR c18_1
      refine lv_lookup (off := 116) (tgt := 134) hx hb dX11_calls_18 (by decide) (by rw [c18_1]; decide +kernel) (by decide) ?_
      refine lv_aload_n hx hb dX11_calls_134 rfl (lv_at hl 2 rfl) ?_
      refine lv_iload_n hx hb dX11_calls_135 rfl (lv_at hl 1 rfl) ?_
      refine lv_iload_n hx hb dX11_calls_136 rfl (lv_at hl 0 rfl) ?_
      replace hR := bd_e hR
      obtain ⟨q137, gq137, hR⟩ := hR
      refine cl_Vi (As := [.int (S1 5 (0 : Int32).toNatClampNeg), .int (S1 5 (1 : Int32).toNatClampNeg)]) (rest := []) (L := [(w_X11 ad (b1) cs S1)]) (L' := [(w_X11 ad (b1) cs q137.2)]) (Wc := [(w_X11 ad (b1) cs S1)]) (Wc' := [(w_X11 ad (b1) cs q137.2)]) (is := [0]) (js := []) ⟨hx, hb, hml, hown, hts⟩ (k_X11_put l dC dI cs ad (b1) s.heap.size S1 (S1 5 (0 : Int32).toNatClampNeg) (S1 5 (1 : Int32).toNatClampNeg) q137.1 q137.2 gq137) (cwV 2 hts gX11_calls_X11_put rfl rfl rfl cd_X11_put ⟨Nat.le_of_ble_eq_true rfl, Nat.le_of_ble_eq_true rfl⟩) hK hP hD hS hA ⟨rfl, rfl, rfl, rfl, rfl, rfl⟩ (jn_nd (is := [0]) hD rfl rfl) 0 9 rfl rfl rfl rfl rfl hl.1 (Nat.le_of_ble_eq_true rfl) dX11_calls_137 (fun H137 locs137 hP' hD' hS' => ?_)
      replace hS := hS'
      replace hP : va_P (dC, dI) vwCl (fl [(w_X11 ad (b1) cs q137.2)]) H137 := hP'
      replace hD : va_D A (fl [(w_X11 ad (b1) cs q137.2)]) := hD'
      clear hP' hD' hS'
      replace hR := Option.some.inj hR
      obtain ⟨e9, hR⟩ := Prod.mk.inj hR
      have eu1 := hR
      replace hP : va_P (dC, dI) vwCl (fl [(w_X11 ad (b1) cs u1)]) H137 := by rw [← eu1]; exact hP
      replace hD : va_D A (fl [(w_X11 ad (b1) cs u1)]) := by rw [← eu1]; exact hD
      exact W.iret hx hb hr (fun t ht hW => ⟨⟨_, (), rfl, e9, by rw [ht]; exact hP, va_K.moved hW.alike hK, hD⟩, hS.F ht⟩) hS.2.2 dX11_calls_140
    · replace hR := it_f hR c18_1
      by_cases c18_2 : (S1 6 7) = 66667
      · replace hR := it_t hR c18_2
        refine lv_lookup (off := 89) (tgt := 107) hx hb dX11_calls_18 (by decide) (by rw [c18_2]; decide +kernel) (by decide) ?_
        refine lv_aload_n hx hb dX11_calls_107 rfl (lv_at hl 2 rfl) ?_
        refine lv_iload_n hx hb dX11_calls_108 rfl (lv_at hl 1 rfl) ?_
        refine lv_iload_n hx hb dX11_calls_109 rfl (lv_at hl 0 rfl) ?_
        replace hR := bd_e hR
        obtain ⟨q110, gq110, hR⟩ := hR
        refine cl_Vi (As := [.int (S1 5 (0 : Int32).toNatClampNeg), .int (S1 5 (1 : Int32).toNatClampNeg)]) (rest := []) (L := [(w_X11 ad (b1) cs S1)]) (L' := [(w_X11 ad (b1) cs q110.2)]) (Wc := [(w_X11 ad (b1) cs S1)]) (Wc' := [(w_X11 ad (b1) cs q110.2)]) (is := [0]) (js := []) ⟨hx, hb, hml, hown, hts⟩ (k_X11_back l dC dI cs ad (b1) s.heap.size S1 (S1 5 (0 : Int32).toNatClampNeg) (S1 5 (1 : Int32).toNatClampNeg) q110.1 q110.2 gq110) (cwV 2 hts gX11_calls_X11_back rfl rfl rfl cd_X11_back ⟨Nat.le_of_ble_eq_true rfl, Nat.le_of_ble_eq_true rfl⟩) hK hP hD hS hA ⟨rfl, rfl, rfl, rfl, rfl, rfl⟩ (jn_nd (is := [0]) hD rfl rfl) 0 9 rfl rfl rfl rfl rfl hl.1 (Nat.le_of_ble_eq_true rfl) dX11_calls_110 (fun H110 locs110 hP' hD' hS' => ?_)
        replace hS := hS'
        replace hP : va_P (dC, dI) vwCl (fl [(w_X11 ad (b1) cs q110.2)]) H110 := hP'
        replace hD : va_D A (fl [(w_X11 ad (b1) cs q110.2)]) := hD'
        clear hP' hD' hS'
        replace hR := Option.some.inj hR
        obtain ⟨e9, hR⟩ := Prod.mk.inj hR
        have eu1 := hR
        replace hP : va_P (dC, dI) vwCl (fl [(w_X11 ad (b1) cs u1)]) H110 := by rw [← eu1]; exact hP
        replace hD : va_D A (fl [(w_X11 ad (b1) cs u1)]) := by rw [← eu1]; exact hD
        exact W.iret hx hb hr (fun t ht hW => ⟨⟨_, (), rfl, e9, by rw [ht]; exact hP, va_K.moved hW.alike hK, hD⟩, hS.F ht⟩) hS.2.2 dX11_calls_113
      · replace hR := it_f hR c18_2
        by_cases c18_3 : (S1 6 7) = 218508
        · replace hR := it_t hR c18_3
          refine lv_lookup (off := 96) (tgt := 114) hx hb dX11_calls_18 (by decide) (by rw [c18_3]; decide +kernel) (by decide) ?_
          refine lv_aload_n hx hb dX11_calls_114 rfl (lv_at hl 2 rfl) ?_
          refine lv_iload_n hx hb dX11_calls_115 rfl (lv_at hl 1 rfl) ?_
          refine lv_iload_n hx hb dX11_calls_116 rfl (lv_at hl 0 rfl) ?_
          replace hR := bd_e hR
          obtain ⟨q117, gq117, hR⟩ := hR
          refine cl_Vi (As := [.int (S1 5 (0 : Int32).toNatClampNeg), .int (S1 5 (1 : Int32).toNatClampNeg)]) (rest := []) (L := [(w_X11 ad (b1) cs S1)]) (L' := [(w_X11 ad (b1) cs q117.2)]) (Wc := [(w_X11 ad (b1) cs S1)]) (Wc' := [(w_X11 ad (b1) cs q117.2)]) (is := [0]) (js := []) ⟨hx, hb, hml, hown, hts⟩ (k_X11_full l dC dI cs ad (b1) s.heap.size S1 (S1 5 (0 : Int32).toNatClampNeg) (S1 5 (1 : Int32).toNatClampNeg) q117.1 q117.2 gq117) (cwV 2 hts gX11_calls_X11_full rfl rfl rfl cd_X11_full ⟨Nat.le_of_ble_eq_true rfl, Nat.le_of_ble_eq_true rfl⟩) hK hP hD hS hA ⟨rfl, rfl, rfl, rfl, rfl, rfl⟩ (jn_nd (is := [0]) hD rfl rfl) 0 9 rfl rfl rfl rfl rfl hl.1 (Nat.le_of_ble_eq_true rfl) dX11_calls_117 (fun H117 locs117 hP' hD' hS' => ?_)
          replace hS := hS'
          replace hP : va_P (dC, dI) vwCl (fl [(w_X11 ad (b1) cs q117.2)]) H117 := hP'
          replace hD : va_D A (fl [(w_X11 ad (b1) cs q117.2)]) := hD'
          clear hP' hD' hS'
          replace hR := Option.some.inj hR
          obtain ⟨e9, hR⟩ := Prod.mk.inj hR
          have eu1 := hR
          replace hP : va_P (dC, dI) vwCl (fl [(w_X11 ad (b1) cs u1)]) H117 := by rw [← eu1]; exact hP
          replace hD : va_D A (fl [(w_X11 ad (b1) cs u1)]) := by rw [← eu1]; exact hD
          exact W.iret hx hb hr (fun t ht hW => ⟨⟨_, (), rfl, e9, by rw [ht]; exact hP, va_K.moved hW.alike hK, hD⟩, hS.F ht⟩) hS.2.2 dX11_calls_120
        · replace hR := it_f hR c18_3
          by_cases c18_4 : (S1 6 7) = 431556
          · replace hR := it_t hR c18_4
            refine lv_lookup (off := 130) (tgt := 148) hx hb dX11_calls_18 (by decide) (by rw [c18_4]; decide +kernel) (by decide) ?_
            refine lv_aload_n hx hb dX11_calls_148 rfl (lv_at hl 2 rfl) ?_
            refine lv_iload_n hx hb dX11_calls_149 rfl (lv_at hl 1 rfl) ?_
            refine lv_iload_n hx hb dX11_calls_150 rfl (lv_at hl 0 rfl) ?_
            replace hR := bd_e hR
            obtain ⟨q151, gq151, hR⟩ := hR
            refine cl_Vi (As := [.int (S1 5 (0 : Int32).toNatClampNeg), .int (S1 5 (1 : Int32).toNatClampNeg)]) (rest := []) (L := [(w_X11 ad (b1) cs S1)]) (L' := [(w_X11 ad (b1) cs q151.2)]) (Wc := [(w_X11 ad (b1) cs S1)]) (Wc' := [(w_X11 ad (b1) cs q151.2)]) (is := [0]) (js := []) ⟨hx, hb, hml, hown, hts⟩ (k_X11_mend l dC dI cs ad (b1) s.heap.size S1 (S1 5 (0 : Int32).toNatClampNeg) (S1 5 (1 : Int32).toNatClampNeg) q151.1 q151.2 gq151) (cwV 2 hts gX11_calls_X11_mend rfl rfl rfl cd_X11_mend ⟨Nat.le_of_ble_eq_true rfl, Nat.le_of_ble_eq_true rfl⟩) hK hP hD hS hA ⟨rfl, rfl, rfl, rfl, rfl, rfl⟩ (jn_nd (is := [0]) hD rfl rfl) 0 9 rfl rfl rfl rfl rfl hl.1 (Nat.le_of_ble_eq_true rfl) dX11_calls_151 (fun H151 locs151 hP' hD' hS' => ?_)
            replace hS := hS'
            replace hP : va_P (dC, dI) vwCl (fl [(w_X11 ad (b1) cs q151.2)]) H151 := hP'
            replace hD : va_D A (fl [(w_X11 ad (b1) cs q151.2)]) := hD'
            clear hP' hD' hS'
            replace hR := Option.some.inj hR
            obtain ⟨e9, hR⟩ := Prod.mk.inj hR
            have eu1 := hR
            replace hP : va_P (dC, dI) vwCl (fl [(w_X11 ad (b1) cs u1)]) H151 := by rw [← eu1]; exact hP
            replace hD : va_D A (fl [(w_X11 ad (b1) cs u1)]) := by rw [← eu1]; exact hD
            exact W.iret hx hb hr (fun t ht hW => ⟨⟨_, (), rfl, e9, by rw [ht]; exact hP, va_K.moved hW.alike hK, hD⟩, hS.F ht⟩) hS.2.2 dX11_calls_154
          · replace hR := it_f hR c18_4
            by_cases c18_5 : (S1 6 7) = 525939
            · replace hR := it_t hR c18_5
              refine lv_lookup (off := 137) (tgt := 155) hx hb dX11_calls_18 (by decide) (by rw [c18_5]; decide +kernel) (by decide) ?_
              refine lv_aload_n hx hb dX11_calls_155 rfl (lv_at hl 2 rfl) ?_
              refine lv_iload_n hx hb dX11_calls_156 rfl (lv_at hl 1 rfl) ?_
              replace hR := bd_e hR
              obtain ⟨q157, gq157, hR⟩ := hR
              refine cl_Vi (As := [.int (S1 5 (0 : Int32).toNatClampNeg)]) (rest := []) (L := [(w_X11 ad (b1) cs S1)]) (L' := [(w_X11 ad (b1) cs q157.2)]) (Wc := [(w_X11 ad (b1) cs S1)]) (Wc' := [(w_X11 ad (b1) cs q157.2)]) (is := [0]) (js := []) ⟨hx, hb, hml, hown, hts⟩ (k_X11_pass l dC dI cs ad (b1) s.heap.size S1 (S1 5 (0 : Int32).toNatClampNeg) q157.1 q157.2 gq157) (cwV 1 hts gX11_calls_X11_pass rfl rfl rfl cd_X11_pass ⟨Nat.le_of_ble_eq_true rfl, Nat.le_of_ble_eq_true rfl⟩) hK hP hD hS hA ⟨rfl, rfl, rfl, rfl, rfl, rfl⟩ (jn_nd (is := [0]) hD rfl rfl) 0 9 rfl rfl rfl rfl rfl hl.1 (Nat.le_of_ble_eq_true rfl) dX11_calls_157 (fun H157 locs157 hP' hD' hS' => ?_)
              replace hS := hS'
              replace hP : va_P (dC, dI) vwCl (fl [(w_X11 ad (b1) cs q157.2)]) H157 := hP'
              replace hD : va_D A (fl [(w_X11 ad (b1) cs q157.2)]) := hD'
              clear hP' hD' hS'
              replace hR := Option.some.inj hR
              obtain ⟨e9, hR⟩ := Prod.mk.inj hR
              have eu1 := hR
              replace hP : va_P (dC, dI) vwCl (fl [(w_X11 ad (b1) cs u1)]) H157 := by rw [← eu1]; exact hP
              replace hD : va_D A (fl [(w_X11 ad (b1) cs u1)]) := by rw [← eu1]; exact hD
              exact W.iret hx hb hr (fun t ht hW => ⟨⟨_, (), rfl, e9, by rw [ht]; exact hP, va_K.moved hW.alike hK, hD⟩, hS.F ht⟩) hS.2.2 dX11_calls_160
            · replace hR := it_f hR c18_5
              by_cases c18_6 : (S1 6 7) = 595412
              · replace hR := it_t hR c18_6
                refine lv_lookup (off := 82) (tgt := 100) hx hb dX11_calls_18 (by decide) (by rw [c18_6]; decide +kernel) (by decide) ?_
                refine lv_aload_n hx hb dX11_calls_100 rfl (lv_at hl 2 rfl) ?_
                refine lv_iload_n hx hb dX11_calls_101 rfl (lv_at hl 1 rfl) ?_
                refine lv_iload_n hx hb dX11_calls_102 rfl (lv_at hl 0 rfl) ?_
                replace hR := bd_e hR
                obtain ⟨q103, gq103, hR⟩ := hR
                refine cl_Vi (As := [.int (S1 5 (0 : Int32).toNatClampNeg), .int (S1 5 (1 : Int32).toNatClampNeg)]) (rest := []) (L := [(w_X11 ad (b1) cs S1)]) (L' := [(w_X11 ad (b1) cs q103.2)]) (Wc := [(w_X11 ad (b1) cs S1)]) (Wc' := [(w_X11 ad (b1) cs q103.2)]) (is := [0]) (js := []) ⟨hx, hb, hml, hown, hts⟩ (k_X11_rent l dC dI cs ad (b1) s.heap.size S1 (S1 5 (0 : Int32).toNatClampNeg) (S1 5 (1 : Int32).toNatClampNeg) q103.1 q103.2 gq103) (cwV 2 hts gX11_calls_X11_rent rfl rfl rfl cd_X11_rent ⟨Nat.le_of_ble_eq_true rfl, Nat.le_of_ble_eq_true rfl⟩) hK hP hD hS hA ⟨rfl, rfl, rfl, rfl, rfl, rfl⟩ (jn_nd (is := [0]) hD rfl rfl) 0 9 rfl rfl rfl rfl rfl hl.1 (Nat.le_of_ble_eq_true rfl) dX11_calls_103 (fun H103 locs103 hP' hD' hS' => ?_)
                replace hS := hS'
                replace hP : va_P (dC, dI) vwCl (fl [(w_X11 ad (b1) cs q103.2)]) H103 := hP'
                replace hD : va_D A (fl [(w_X11 ad (b1) cs q103.2)]) := hD'
                clear hP' hD' hS'
                replace hR := Option.some.inj hR
                obtain ⟨e9, hR⟩ := Prod.mk.inj hR
                have eu1 := hR
                replace hP : va_P (dC, dI) vwCl (fl [(w_X11 ad (b1) cs u1)]) H103 := by rw [← eu1]; exact hP
                replace hD : va_D A (fl [(w_X11 ad (b1) cs u1)]) := by rw [← eu1]; exact hD
                exact W.iret hx hb hr (fun t ht hW => ⟨⟨_, (), rfl, e9, by rw [ht]; exact hP, va_K.moved hW.alike hK, hD⟩, hS.F ht⟩) hS.2.2 dX11_calls_106
              · replace hR := it_f hR c18_6
                by_cases c18_7 : (S1 6 7) = 656741
                · replace hR := it_t hR c18_7
                  refine lv_lookup (off := 109) (tgt := 127) hx hb dX11_calls_18 (by decide) (by rw [c18_7]; decide +kernel) (by decide) ?_
                  refine lv_aload_n hx hb dX11_calls_127 rfl (lv_at hl 2 rfl) ?_
                  refine lv_iload_n hx hb dX11_calls_128 rfl (lv_at hl 1 rfl) ?_
                  refine lv_iload_n hx hb dX11_calls_129 rfl (lv_at hl 0 rfl) ?_
                  replace hR := bd_e hR
                  obtain ⟨q130, gq130, hR⟩ := hR
                  refine cl_Vi (As := [.int (S1 5 (0 : Int32).toNatClampNeg), .int (S1 5 (1 : Int32).toNatClampNeg)]) (rest := []) (L := [(w_X11 ad (b1) cs S1)]) (L' := [(w_X11 ad (b1) cs q130.2)]) (Wc := [(w_X11 ad (b1) cs S1)]) (Wc' := [(w_X11 ad (b1) cs q130.2)]) (is := [0]) (js := []) ⟨hx, hb, hml, hown, hts⟩ (k_X11_take l dC dI cs ad (b1) s.heap.size S1 (S1 5 (0 : Int32).toNatClampNeg) (S1 5 (1 : Int32).toNatClampNeg) q130.1 q130.2 gq130) (cwV 2 hts gX11_calls_X11_take rfl rfl rfl cd_X11_take ⟨Nat.le_of_ble_eq_true rfl, Nat.le_of_ble_eq_true rfl⟩) hK hP hD hS hA ⟨rfl, rfl, rfl, rfl, rfl, rfl⟩ (jn_nd (is := [0]) hD rfl rfl) 0 9 rfl rfl rfl rfl rfl hl.1 (Nat.le_of_ble_eq_true rfl) dX11_calls_130 (fun H130 locs130 hP' hD' hS' => ?_)
                  replace hS := hS'
                  replace hP : va_P (dC, dI) vwCl (fl [(w_X11 ad (b1) cs q130.2)]) H130 := hP'
                  replace hD : va_D A (fl [(w_X11 ad (b1) cs q130.2)]) := hD'
                  clear hP' hD' hS'
                  replace hR := Option.some.inj hR
                  obtain ⟨e9, hR⟩ := Prod.mk.inj hR
                  have eu1 := hR
                  replace hP : va_P (dC, dI) vwCl (fl [(w_X11 ad (b1) cs u1)]) H130 := by rw [← eu1]; exact hP
                  replace hD : va_D A (fl [(w_X11 ad (b1) cs u1)]) := by rw [← eu1]; exact hD
                  exact W.iret hx hb hr (fun t ht hW => ⟨⟨_, (), rfl, e9, by rw [ht]; exact hP, va_K.moved hW.alike hK, hD⟩, hS.F ht⟩) hS.2.2 dX11_calls_133
                · replace hR := it_f hR c18_7
                  by_cases c18_8 : (S1 6 7) = 6346132
                  · replace hR := it_t hR c18_8
                    refine lv_lookup (off := 103) (tgt := 121) hx hb dX11_calls_18 (by decide) (by rw [c18_8]; decide +kernel) (by decide) ?_
                    refine lv_aload_n hx hb dX11_calls_121 rfl (lv_at hl 2 rfl) ?_
                    refine lv_iload_n hx hb dX11_calls_122 rfl (lv_at hl 1 rfl) ?_
                    replace hR := bd_e hR
                    obtain ⟨q123, gq123, hR⟩ := hR
                    refine cl_Vi (As := [.int (S1 5 (0 : Int32).toNatClampNeg)]) (rest := []) (L := [(w_X11 ad (b1) cs S1)]) (L' := [(w_X11 ad (b1) cs q123.2)]) (Wc := [(w_X11 ad (b1) cs S1)]) (Wc' := [(w_X11 ad (b1) cs q123.2)]) (is := [0]) (js := []) ⟨hx, hb, hml, hown, hts⟩ (k_X11_report l dC dI cs ad (b1) s.heap.size S1 (S1 5 (0 : Int32).toNatClampNeg) q123.1 q123.2 gq123) (cwV 1 hts gX11_calls_X11_report rfl rfl rfl cd_X11_report ⟨Nat.le_of_ble_eq_true rfl, Nat.le_of_ble_eq_true rfl⟩) hK hP hD hS hA ⟨rfl, rfl, rfl, rfl, rfl, rfl⟩ (jn_nd (is := [0]) hD rfl rfl) 0 9 rfl rfl rfl rfl rfl hl.1 (Nat.le_of_ble_eq_true rfl) dX11_calls_123 (fun H123 locs123 hP' hD' hS' => ?_)
                    replace hS := hS'
                    replace hP : va_P (dC, dI) vwCl (fl [(w_X11 ad (b1) cs q123.2)]) H123 := hP'
                    replace hD : va_D A (fl [(w_X11 ad (b1) cs q123.2)]) := hD'
                    clear hP' hD' hS'
                    replace hR := Option.some.inj hR
                    obtain ⟨e9, hR⟩ := Prod.mk.inj hR
                    have eu1 := hR
                    replace hP : va_P (dC, dI) vwCl (fl [(w_X11 ad (b1) cs u1)]) H123 := by rw [← eu1]; exact hP
                    replace hD : va_D A (fl [(w_X11 ad (b1) cs u1)]) := by rw [← eu1]; exact hD
                    exact W.iret hx hb hr (fun t ht hW => ⟨⟨_, (), rfl, e9, by rw [ht]; exact hP, va_K.moved hW.alike hK, hD⟩, hS.F ht⟩) hS.2.2 dX11_calls_126
                  · replace hR := it_f hR c18_8
                    refine lv_lookup (off := 143) (tgt := 161) hx hb dX11_calls_18 (by decide) ((lv_osw c18_0 rfl).trans ((lv_osw c18_1 rfl).trans ((lv_osw c18_2 rfl).trans ((lv_osw c18_3 rfl).trans ((lv_osw c18_4 rfl).trans ((lv_osw c18_5 rfl).trans ((lv_osw c18_6 rfl).trans ((lv_osw c18_7 rfl).trans ((lv_osw c18_8 rfl).trans (rfl)))))))))) (by decide) ?_
                    refine lv_aload_n hx hb dX11_calls_161 rfl (lv_at hl 2 rfl) ?_
                    refine lv_iload_n hx hb dX11_calls_162 rfl (lv_at hl 1 rfl) ?_
                    replace hR := bd_e hR
                    obtain ⟨q163, gq163, hR⟩ := hR
                    refine cl_Vi (As := [.int (S1 5 (0 : Int32).toNatClampNeg)]) (rest := []) (L := [(w_X11 ad (b1) cs S1)]) (L' := [(w_X11 ad (b1) cs q163.2)]) (Wc := [(w_X11 ad (b1) cs S1)]) (Wc' := [(w_X11 ad (b1) cs q163.2)]) (is := [0]) (js := []) ⟨hx, hb, hml, hown, hts⟩ (k_X11_pause l dC dI cs ad (b1) s.heap.size S1 (S1 5 (0 : Int32).toNatClampNeg) q163.1 q163.2 gq163) (cwV 1 hts gX11_calls_X11_pause rfl rfl rfl cd_X11_pause ⟨Nat.le_of_ble_eq_true rfl, Nat.le_of_ble_eq_true rfl⟩) hK hP hD hS hA ⟨rfl, rfl, rfl, rfl, rfl, rfl⟩ (jn_nd (is := [0]) hD rfl rfl) 0 9 rfl rfl rfl rfl rfl hl.1 (Nat.le_of_ble_eq_true rfl) dX11_calls_163 (fun H163 locs163 hP' hD' hS' => ?_)
                    replace hS := hS'
                    replace hP : va_P (dC, dI) vwCl (fl [(w_X11 ad (b1) cs q163.2)]) H163 := hP'
                    replace hD : va_D A (fl [(w_X11 ad (b1) cs q163.2)]) := hD'
                    clear hP' hD' hS'
                    replace hR := Option.some.inj hR
                    obtain ⟨e9, hR⟩ := Prod.mk.inj hR
                    have eu1 := hR
                    replace hP : va_P (dC, dI) vwCl (fl [(w_X11 ad (b1) cs u1)]) H163 := by rw [← eu1]; exact hP
                    replace hD : va_D A (fl [(w_X11 ad (b1) cs u1)]) := by rw [← eu1]; exact hD
                    exact W.iret hx hb hr (fun t ht hW => ⟨⟨_, (), rfl, e9, by rw [ht]; exact hP, va_K.moved hW.alike hK, hD⟩, hS.F ht⟩) hS.2.2 dX11_calls_166
set_option maxHeartbeats 8000000 in
set_option maxRecDepth 100000 in
theorem k_X11_plays (l : Launch) (dC : Nat → ClassId) (dI : Nat → Nat → Nat) (cs : Nat → ClassId) (ad : Nat → Nat) (b1 : Nat) (sz : Nat) (S1 : T2) (r : Int32) (u1 : T2) (hR : fX11_plays S1 = some (r, u1)) : Met l yX11_plays wsX11_plays ({ frames := 8, cells := 0, slots := 0, locals := 178 } : Room) (va_Pc [.ref (ad b1)] (pW dC dI (tyL cs) (fl [(w_X11 ad (b1) cs S1)]) sz)) (QI dC dI (tyL cs) (va_A (fl [(w_X11 ad (b1) cs S1)]) sz) (fl [(w_X11 ad (b1) cs u1)]) r) 0 0 (va_A (fl [(w_X11 ad (b1) cs S1)]) sz) := by
  refine mt_of (own := RX11) (cc := cX11_plays) (maxL := 4) (ret := (some .int)) (Qc := fun A => QI dC dI (tyL cs) A (fl [(w_X11 ad (b1) cs u1)]) r) rfl (by decide) rfl (Nat.le_of_ble_eq_true rfl) (fun p e s m below meth c A ls hsz hx hb hr hts hown hlocks hml hA hK hP hD hS hl => ?_)
  subst hsz
  have hl : lv_has ls 4 [(0, .ref (ad b1))] := hl
  have hF28 := hts (.fieldLink RX11 28 "DockedBikesModel" "runs" "Z") (List.mem_of_getElem? (i := 1) rfl)
  have hF138 := hts (.fieldLink RX11 138 "DockedBikesModel" "typed" "I") (List.mem_of_getElem? (i := 4) rfl)
  have hF151 := hts (.fieldLink RX11 151 "DockedBikesModel" "spot" "I") (List.mem_of_getElem? (i := 2) rfl)
  have hF204 := hts (.fieldLink RX11 204 "DockedBikesModel" "commands" "I") (List.mem_of_getElem? (i := 3) rfl)
  have hF214 := hts (.fieldLink RX11 214 "DockedBikesModel" "cause" "I") (List.mem_of_getElem? (i := 5) rfl)
  have hinX11 : ∀ w ∈ wsX110, w ∈ wsX11_plays := by decide +kernel
  have hB90 : ∀ (S1_90h : T2) (v1_90 : Int32) (v2_90 : Int32) (H : Heap) (locs : List Loc) (ls : Array Slot), fX11_plays_90 S1_90h v1_90 v2_90 = some (r, u1) → va_P (dC, dI) vwCl (fl [(w_X11 ad (b1) cs S1_90h)]) H → va_D A (fl [(w_X11 ad (b1) cs S1_90h)]) → va_S A s.heap H locs → lv_has ls 4 [(0, .ref (ad b1)), (1, .int v1_90), (2, .int v2_90)] → W p l e (headSpec wsX11_plays ({ frames := 8, cells := 0, slots := 0, locals := 178 } : Room)).room s m ([.ref (ad b1)] : List Value).toArray below meth c H locs 0 0 (MQ below (QI dC dI (tyL cs) A (fl [(w_X11 ad (b1) cs u1)]) r) ([.ref (ad b1)] : List Value).toArray s 0 0 A) (F0 m 90 ls []) := by
    intro S1_90h v1_90 v2_90 H locs ls hR hP hD hS hl
    refine lv_aload_n hx hb dX11_plays_90 rfl (lv_at hl 0 rfl) ?_
    refine lv_iconst (v := 0) hx hb dX11_plays_91 ic_0 ?_
    refine va_put (D := (dC, dI)) (ci := 9) (v := .int (0 : Int32)) (ty := .boolean) (C := RX11) (T := TX11) (N := 14) hx hb hts hinX11 tyX11 tyX11_ok nmX11 hown hK hP hD hS 0 rfl rfl 6 (by decide) hF28 (fun _ h9 => h9) rfl (by decide +kernel) rfl rfl (Nat.le_of_ble_eq_true rfl) dX11_plays_92 (fun H92 locs92 hP' hD' hS' => ?_)
    replace hS := hS'
    have hP' : va_P (dC, dI) vwCl (fl [(w_X11 ad (b1) cs (sU S1_90h 6 (sU (S1_90h 6) 2 (0 : Int32))))]) H92 := hP'
    have hD' : va_D A (fl [(w_X11 ad (b1) cs (sU S1_90h 6 (sU (S1_90h 6) 2 (0 : Int32))))]) := hD'
    replace hR := bn_e hR
    obtain ⟨S1_92, eS1_92, hR⟩ := hR
    replace hP : va_P (dC, dI) vwCl (fl [(w_X11 ad (b1) cs S1_92)]) H92 := by rw [eS1_92]; exact hP'
    replace hD : va_D A (fl [(w_X11 ad (b1) cs S1_92)]) := by rw [eS1_92]; exact hD'
    clear hP' hD' hS'
    refine lv_iload_n hx hb dX11_plays_95 rfl (lv_at hl 2 rfl) ?_
    refine lv_if_eq (tgt := 104) hx hb dX11_plays_96 (by decide) (fun c96 => ?_) (fun c96 => ?_)
    · replace hR := it_t hR c96
      refine lv_iload_n hx hb dX11_plays_104 rfl (lv_at hl 1 rfl) ?_
      replace hR := Option.some.inj hR
      obtain ⟨e9, hR⟩ := Prod.mk.inj hR
      have eu1 := hR
      replace hP : va_P (dC, dI) vwCl (fl [(w_X11 ad (b1) cs u1)]) H92 := by rw [← eu1]; exact hP
      replace hD : va_D A (fl [(w_X11 ad (b1) cs u1)]) := by rw [← eu1]; exact hD
      exact W.iret hx hb hr (fun t ht hW => ⟨⟨_, (), rfl, e9, by rw [ht]; exact hP, va_K.moved hW.alike hK, hD⟩, hS.F ht⟩) hS.2.2 dX11_plays_105
    · replace hR := it_f hR c96
      refine lv_bipush (v := (-4)) hx hb dX11_plays_99 bp_m4 ?_
      refine lv_goto (tgt := 105) hx hb dX11_plays_101 (by decide) ?_
      replace hR := Option.some.inj hR
      obtain ⟨e9, hR⟩ := Prod.mk.inj hR
      have eu1 := hR
      replace hP : va_P (dC, dI) vwCl (fl [(w_X11 ad (b1) cs u1)]) H92 := by rw [← eu1]; exact hP
      replace hD : va_D A (fl [(w_X11 ad (b1) cs u1)]) := by rw [← eu1]; exact hD
      exact W.iret hx hb hr (fun t ht hW => ⟨⟨_, (), rfl, e9, by rw [ht]; exact hP, va_K.moved hW.alike hK, hD⟩, hS.F ht⟩) hS.2.2 dX11_plays_105
  have hB19 : ∀ (n19 : Nat), ∀ (S1_19h : T2) (v1_19 : Int32) (v2_19 : Int32) (H : Heap) (locs : List Loc) (ls : Array Slot), fX11_plays_19 n19 S1_19h v1_19 v2_19 = some (r, u1) → va_P (dC, dI) vwCl (fl [(w_X11 ad (b1) cs S1_19h)]) H → va_D A (fl [(w_X11 ad (b1) cs S1_19h)]) → va_S A s.heap H locs → lv_has ls 4 [(0, .ref (ad b1)), (1, .int v1_19), (2, .int v2_19)] → W p l e (headSpec wsX11_plays ({ frames := 8, cells := 0, slots := 0, locals := 178 } : Room)).room s m ([.ref (ad b1)] : List Value).toArray below meth c H locs 0 0 (MQ below (QI dC dI (tyL cs) A (fl [(w_X11 ad (b1) cs u1)]) r) ([.ref (ad b1)] : List Value).toArray s 0 0 A) (F0 m 19 ls []) := by
    intro n19
    induction n19 with
    | zero =>
      intro S1_19h v1_19 v2_19 H locs ls hR hP hD hS hl
      exact nn_e hR
    | succ n19 hI19 =>
      have hB76 : ∀ (S1_76h : T2) (v1_76 : Int32) (t0_76 : Int32) (H : Heap) (locs : List Loc) (ls : Array Slot), fX11_plays_76 (fX11_plays_19 n19) S1_76h v1_76 t0_76 = some (r, u1) → va_P (dC, dI) vwCl (fl [(w_X11 ad (b1) cs S1_76h)]) H → va_D A (fl [(w_X11 ad (b1) cs S1_76h)]) → va_S A s.heap H locs → lv_has ls 4 [(0, .ref (ad b1)), (1, .int v1_76)] → W p l e (headSpec wsX11_plays ({ frames := 8, cells := 0, slots := 0, locals := 178 } : Room)).room s m ([.ref (ad b1)] : List Value).toArray below meth c H locs 0 0 (MQ below (QI dC dI (tyL cs) A (fl [(w_X11 ad (b1) cs u1)]) r) ([.ref (ad b1)] : List Value).toArray s 0 0 A) (F0 m 76 ls [.int t0_76]) := by
        intro S1_76h v1_76 t0_76 H locs ls hR hP hD hS hl
        refine lv_istore_n (lv' := [(2, .int t0_76), (0, .ref (ad b1)), (1, .int v1_76)]) hx hb dX11_plays_76 rfl hl (Nat.le_of_ble_eq_true rfl) rfl (fun ls hl => ?_)
        refine lv_aload_n hx hb dX11_plays_77 rfl (lv_at hl 1 rfl) ?_
        refine lv_dup hx hb dX11_plays_78 rfl ?_
        refine va_get (D := (dC, dI)) (ci := 9) (v := .int (S1_76h 6 6)) (C := RX11) (T := TX11) (N := 14) hx hb hts hinX11 hown hK hP 0 rfl rfl 11 (by decide) hF204 (fun _ h9 => h9) rfl dX11_plays_79 ?_
        refine lv_iconst (v := 1) hx hb dX11_plays_82 ic_1 ?_
        refine lv_iadd hx hb dX11_plays_83 ?_
        refine va_put (D := (dC, dI)) (ci := 9) (v := .int ((S1_76h 6 6) + 1)) (ty := .int) (C := RX11) (T := TX11) (N := 14) hx hb hts hinX11 tyX11 tyX11_ok nmX11 hown hK hP hD hS 0 rfl rfl 11 (by decide) hF204 (fun _ h9 => h9) rfl (by decide +kernel) rfl rfl (Nat.le_of_ble_eq_true rfl) dX11_plays_84 (fun H84 locs84 hP' hD' hS' => ?_)
        replace hS := hS'
        have hP' : va_P (dC, dI) vwCl (fl [(w_X11 ad (b1) cs (sU S1_76h 6 (sU (S1_76h 6) 6 ((S1_76h 6 6) + 1))))]) H84 := hP'
        have hD' : va_D A (fl [(w_X11 ad (b1) cs (sU S1_76h 6 (sU (S1_76h 6) 6 ((S1_76h 6 6) + 1))))]) := hD'
        replace hR := bn_e hR
        obtain ⟨S1_84, eS1_84, hR⟩ := hR
        replace hP : va_P (dC, dI) vwCl (fl [(w_X11 ad (b1) cs S1_84)]) H84 := by rw [eS1_84]; exact hP'
        replace hD : va_D A (fl [(w_X11 ad (b1) cs S1_84)]) := by rw [eS1_84]; exact hD'
        clear hP' hD' hS'
        refine lv_goto (tgt := 19) hx hb dX11_plays_87 (by decide) ?_
        exact hI19 S1_84 v1_76 t0_76 H84 _ ls hR hP hD hS (lv_sub hl [1, 2, 0] rfl)
      have hB75 : ∀ (S1_75h : T2) (v1_75 : Int32) (H : Heap) (locs : List Loc) (ls : Array Slot), fX11_plays_75 (fX11_plays_19 n19) S1_75h v1_75 = some (r, u1) → va_P (dC, dI) vwCl (fl [(w_X11 ad (b1) cs S1_75h)]) H → va_D A (fl [(w_X11 ad (b1) cs S1_75h)]) → va_S A s.heap H locs → lv_has ls 4 [(0, .ref (ad b1)), (1, .int v1_75)] → W p l e (headSpec wsX11_plays ({ frames := 8, cells := 0, slots := 0, locals := 178 } : Room)).room s m ([.ref (ad b1)] : List Value).toArray below meth c H locs 0 0 (MQ below (QI dC dI (tyL cs) A (fl [(w_X11 ad (b1) cs u1)]) r) ([.ref (ad b1)] : List Value).toArray s 0 0 A) (F0 m 75 ls []) := by
        intro S1_75h v1_75 H locs ls hR hP hD hS hl
        refine lv_iconst (v := 0) hx hb dX11_plays_75 ic_0 ?_
        exact hB76 S1_75h v1_75 (0 : Int32) H _ ls hR hP hD hS (lv_sub hl [0, 1] rfl)
      have hB57 : ∀ (S1_57h : T2) (v1_57 : Int32) (v3_57 : Int32) (t1_57 : Int32) (H : Heap) (locs : List Loc) (ls : Array Slot), fX11_plays_57 (fX11_plays_19 n19) S1_57h v1_57 v3_57 t1_57 = some (r, u1) → va_P (dC, dI) vwCl (fl [(w_X11 ad (b1) cs S1_57h)]) H → va_D A (fl [(w_X11 ad (b1) cs S1_57h)]) → va_S A s.heap H locs → lv_has ls 4 [(0, .ref (ad b1)), (1, .int v1_57), (3, .int v3_57)] → W p l e (headSpec wsX11_plays ({ frames := 8, cells := 0, slots := 0, locals := 178 } : Room)).room s m ([.ref (ad b1)] : List Value).toArray below meth c H locs 0 0 (MQ below (QI dC dI (tyL cs) A (fl [(w_X11 ad (b1) cs u1)]) r) ([.ref (ad b1)] : List Value).toArray s 0 0 A) (F0 m 57 ls [.int t1_57, .ref (ad b1)]) := by
        intro S1_57h v1_57 v3_57 t1_57 H locs ls hR hP hD hS hl
        refine va_put (D := (dC, dI)) (ci := 9) (v := .int t1_57) (ty := .int) (C := RX11) (T := TX11) (N := 14) hx hb hts hinX11 tyX11 tyX11_ok nmX11 hown hK hP hD hS 0 rfl rfl 10 (by decide) hF214 (fun _ h9 => h9) rfl (by decide +kernel) rfl rfl (Nat.le_of_ble_eq_true rfl) dX11_plays_57 (fun H57 locs57 hP' hD' hS' => ?_)
        replace hS := hS'
        have hP' : va_P (dC, dI) vwCl (fl [(w_X11 ad (b1) cs (sU S1_57h 6 (sU (S1_57h 6) 5 t1_57)))]) H57 := hP'
        have hD' : va_D A (fl [(w_X11 ad (b1) cs (sU S1_57h 6 (sU (S1_57h 6) 5 t1_57)))]) := hD'
        replace hR := bn_e hR
        obtain ⟨S1_57, eS1_57, hR⟩ := hR
        replace hP : va_P (dC, dI) vwCl (fl [(w_X11 ad (b1) cs S1_57)]) H57 := by rw [eS1_57]; exact hP'
        replace hD : va_D A (fl [(w_X11 ad (b1) cs S1_57)]) := by rw [eS1_57]; exact hD'
        clear hP' hD' hS'
        refine lv_iload_n hx hb dX11_plays_60 rfl (lv_at hl 2 rfl) ?_
        refine lv_if_eq (tgt := 75) hx hb dX11_plays_61 (by decide) (fun c61 => ?_) (fun c61 => ?_)
        · replace hR := it_t hR c61
          exact hB75 S1_57 v1_57 H57 _ ls hR hP hD hS (lv_sub hl [0, 1] rfl)
        · replace hR := it_f hR c61
          refine lv_aload_n hx hb dX11_plays_64 rfl (lv_at hl 0 rfl) ?_
          refine va_get (D := (dC, dI)) (ci := 9) (v := .int (S1_57 6 5)) (C := RX11) (T := TX11) (N := 14) hx hb hts hinX11 hown hK hP 0 rfl rfl 10 (by decide) hF214 (fun _ h9 => h9) rfl dX11_plays_65 ?_
          refine lv_if_lt (tgt := 75) hx hb dX11_plays_68 (by decide) (fun c68 => ?_) (fun c68 => ?_)
          · replace hR := it_t hR c68
            exact hB75 S1_57 v1_57 H57 _ ls hR hP hD hS (lv_sub hl [0, 1] rfl)
          · replace hR := it_f hR c68
            refine lv_iconst (v := 1) hx hb dX11_plays_71 ic_1 ?_
            refine lv_goto (tgt := 76) hx hb dX11_plays_72 (by decide) ?_
            exact hB76 S1_57 v1_57 (1 : Int32) H57 _ ls hR hP hD hS (lv_sub hl [0, 1] rfl)
      intro S1_19h v1_19 v2_19 H locs ls hR hP hD hS hl
      rw [fX11_plays_19] at hR
      refine lv_aload_n hx hb dX11_plays_19 rfl (lv_at hl 0 rfl) ?_
      refine va_get (D := (dC, dI)) (ci := 9) (v := .int (S1_19h 6 4)) (C := RX11) (T := TX11) (N := 14) hx hb hts hinX11 hown hK hP 0 rfl rfl 9 (by decide) hF151 (fun _ h9 => h9) rfl dX11_plays_20 ?_
      refine lv_aload_n hx hb dX11_plays_23 rfl (lv_at hl 0 rfl) ?_
      refine va_get (D := (dC, dI)) (ci := 9) (v := .int (S1_19h 6 3)) (C := RX11) (T := TX11) (N := 14) hx hb hts hinX11 hown hK hP 0 rfl rfl 8 (by decide) hF138 (fun _ h9 => h9) rfl dX11_plays_24 ?_
      refine lv_icmp_ge (tgt := 90) hx hb dX11_plays_27 (by decide) (fun c27 => ?_) (fun c27 => ?_)
      · replace hR := it_t hR c27
        exact hB90 S1_19h v1_19 v2_19 H _ ls hR hP hD hS (lv_sub hl [0, 1, 2] rfl)
      · replace hR := it_f hR c27
        refine lv_iload_n hx hb dX11_plays_30 rfl (lv_at hl 2 rfl) ?_
        refine lv_if_eq (tgt := 90) hx hb dX11_plays_31 (by decide) (fun c31 => ?_) (fun c31 => ?_)
        · replace hR := it_t hR c31
          exact hB90 S1_19h v1_19 v2_19 H _ ls hR hP hD hS (lv_sub hl [0, 1, 2] rfl)
        · replace hR := it_f hR c31
          refine lv_aload_n hx hb dX11_plays_34 rfl (lv_at hl 0 rfl) ?_
          refine va_get (D := (dC, dI)) (ci := 9) (v := .int (S1_19h 6 4)) (C := RX11) (T := TX11) (N := 14) hx hb hts hinX11 hown hK hP 0 rfl rfl 9 (by decide) hF151 (fun _ h9 => h9) rfl dX11_plays_35 ?_
          refine lv_istore_n (lv' := [(1, .int (S1_19h 6 4)), (0, .ref (ad b1)), (2, .int v2_19)]) hx hb dX11_plays_38 rfl hl (Nat.le_of_ble_eq_true rfl) rfl (fun ls hl => ?_)
          refine lv_aload_n hx hb dX11_plays_39 rfl (lv_at hl 1 rfl) ?_
          replace hR := bd_e hR
          obtain ⟨q40, gq40, hR⟩ := hR
          refine cl_Vi (As := []) (rest := []) (L := [(w_X11 ad (b1) cs S1_19h)]) (L' := [(w_X11 ad (b1) cs q40.2)]) (Wc := [(w_X11 ad (b1) cs S1_19h)]) (Wc' := [(w_X11 ad (b1) cs q40.2)]) (is := [0]) (js := []) ⟨hx, hb, hml, hown, hts⟩ (k_X11_parses l dC dI cs ad (b1) H.size S1_19h q40.1 q40.2 gq40) (cwV 0 hts gX11_plays_X11_parses rfl rfl rfl cd_X11_parses ⟨Nat.le_of_ble_eq_true rfl, Nat.le_of_ble_eq_true rfl⟩) hK hP hD hS hA ⟨rfl, rfl, rfl, rfl, rfl, rfl⟩ (jn_nd (is := [0]) hD rfl rfl) 0 9 rfl rfl rfl rfl rfl hl.1 (Nat.le_of_ble_eq_true rfl) dX11_plays_40 (fun H40 locs40 hP' hD' hS' => ?_)
          replace hS := hS'
          replace hP : va_P (dC, dI) vwCl (fl [(w_X11 ad (b1) cs q40.2)]) H40 := hP'
          replace hD : va_D A (fl [(w_X11 ad (b1) cs q40.2)]) := hD'
          clear hP' hD' hS'
          refine lv_istore_n (lv' := [(3, .int q40.1), (1, .int (S1_19h 6 4)), (0, .ref (ad b1)), (2, .int v2_19)]) hx hb dX11_plays_43 rfl hl (Nat.le_of_ble_eq_true rfl) rfl (fun ls hl => ?_)
          refine lv_aload_n hx hb dX11_plays_44 rfl (lv_at hl 2 rfl) ?_
          refine lv_iload_n hx hb dX11_plays_45 rfl (lv_at hl 0 rfl) ?_
          refine lv_if_eq (tgt := 56) hx hb dX11_plays_46 (by decide) (fun c46 => ?_) (fun c46 => ?_)
          · replace hR := it_t hR c46
            refine lv_iconst (v := 0) hx hb dX11_plays_56 ic_0 ?_
            exact hB57 q40.2 (S1_19h 6 4) q40.1 (0 : Int32) H40 _ ls hR hP hD hS (lv_sub hl [2, 1, 0] rfl)
          · replace hR := it_f hR c46
            refine lv_aload_n hx hb dX11_plays_49 rfl (lv_at hl 2 rfl) ?_
            replace hR := bd_e hR
            obtain ⟨q50, gq50, hR⟩ := hR
            refine cl_Vi (As := []) (rest := [.ref (ad b1)]) (L := [(w_X11 ad (b1) cs q40.2)]) (L' := [(w_X11 ad (b1) cs q50.2)]) (Wc := [(w_X11 ad (b1) cs q40.2)]) (Wc' := [(w_X11 ad (b1) cs q50.2)]) (is := [0]) (js := []) ⟨hx, hb, hml, hown, hts⟩ (k_X11_calls l dC dI cs ad (b1) H40.size q40.2 q50.1 q50.2 gq50) (cwV 0 hts gX11_plays_X11_calls rfl rfl rfl cd_X11_calls ⟨Nat.le_of_ble_eq_true rfl, Nat.le_of_ble_eq_true rfl⟩) hK hP hD hS hA ⟨rfl, rfl, rfl, rfl, rfl, rfl⟩ (jn_nd (is := [0]) hD rfl rfl) 0 9 rfl rfl rfl rfl rfl hl.1 (Nat.le_of_ble_eq_true rfl) dX11_plays_50 (fun H50 locs50 hP' hD' hS' => ?_)
            replace hS := hS'
            replace hP : va_P (dC, dI) vwCl (fl [(w_X11 ad (b1) cs q50.2)]) H50 := hP'
            replace hD : va_D A (fl [(w_X11 ad (b1) cs q50.2)]) := hD'
            clear hP' hD' hS'
            refine lv_goto (tgt := 57) hx hb dX11_plays_53 (by decide) ?_
            exact hB57 q50.2 (S1_19h 6 4) q40.1 q50.1 H50 _ ls hR hP hD hS (lv_sub hl [2, 1, 0] rfl)
  refine lv_aload_n hx hb dX11_plays_0 rfl (lv_at hl 0 rfl) ?_
  refine lv_iconst (v := 1) hx hb dX11_plays_1 ic_1 ?_
  refine va_put (D := (dC, dI)) (ci := 9) (v := .int (1 : Int32)) (ty := .boolean) (C := RX11) (T := TX11) (N := 14) hx hb hts hinX11 tyX11 tyX11_ok nmX11 hown hK hP hD hS 0 rfl rfl 6 (by decide) hF28 (fun _ h9 => h9) rfl (by decide +kernel) rfl rfl (Nat.le_of_ble_eq_true rfl) dX11_plays_2 (fun H2 locs2 hP' hD' hS' => ?_)
  replace hS := hS'
  have hP' : va_P (dC, dI) vwCl (fl [(w_X11 ad (b1) cs (sU S1 6 (sU (S1 6) 2 (1 : Int32))))]) H2 := hP'
  have hD' : va_D A (fl [(w_X11 ad (b1) cs (sU S1 6 (sU (S1 6) 2 (1 : Int32))))]) := hD'
  replace hR := bn_e hR
  obtain ⟨S1_2, eS1_2, hR⟩ := hR
  replace hP : va_P (dC, dI) vwCl (fl [(w_X11 ad (b1) cs S1_2)]) H2 := by rw [eS1_2]; exact hP'
  replace hD : va_D A (fl [(w_X11 ad (b1) cs S1_2)]) := by rw [eS1_2]; exact hD'
  clear hP' hD' hS'
  refine lv_aload_n hx hb dX11_plays_5 rfl (lv_at hl 0 rfl) ?_
  refine lv_iconst (v := 0) hx hb dX11_plays_6 ic_0 ?_
  refine va_put (D := (dC, dI)) (ci := 9) (v := .int (0 : Int32)) (ty := .int) (C := RX11) (T := TX11) (N := 14) hx hb hts hinX11 tyX11 tyX11_ok nmX11 hown hK hP hD hS 0 rfl rfl 9 (by decide) hF151 (fun _ h9 => h9) rfl (by decide +kernel) rfl rfl (Nat.le_of_ble_eq_true rfl) dX11_plays_7 (fun H7 locs7 hP' hD' hS' => ?_)
  replace hS := hS'
  have hP' : va_P (dC, dI) vwCl (fl [(w_X11 ad (b1) cs (sU S1_2 6 (sU (S1_2 6) 4 (0 : Int32))))]) H7 := hP'
  have hD' : va_D A (fl [(w_X11 ad (b1) cs (sU S1_2 6 (sU (S1_2 6) 4 (0 : Int32))))]) := hD'
  replace hR := bn_e hR
  obtain ⟨S1_7, eS1_7, hR⟩ := hR
  replace hP : va_P (dC, dI) vwCl (fl [(w_X11 ad (b1) cs S1_7)]) H7 := by rw [eS1_7]; exact hP'
  replace hD : va_D A (fl [(w_X11 ad (b1) cs S1_7)]) := by rw [eS1_7]; exact hD'
  clear hP' hD' hS'
  refine lv_aload_n hx hb dX11_plays_10 rfl (lv_at hl 0 rfl) ?_
  refine lv_iconst (v := 0) hx hb dX11_plays_11 ic_0 ?_
  refine va_put (D := (dC, dI)) (ci := 9) (v := .int (0 : Int32)) (ty := .int) (C := RX11) (T := TX11) (N := 14) hx hb hts hinX11 tyX11 tyX11_ok nmX11 hown hK hP hD hS 0 rfl rfl 11 (by decide) hF204 (fun _ h9 => h9) rfl (by decide +kernel) rfl rfl (Nat.le_of_ble_eq_true rfl) dX11_plays_12 (fun H12 locs12 hP' hD' hS' => ?_)
  replace hS := hS'
  have hP' : va_P (dC, dI) vwCl (fl [(w_X11 ad (b1) cs (sU S1_7 6 (sU (S1_7 6) 6 (0 : Int32))))]) H12 := hP'
  have hD' : va_D A (fl [(w_X11 ad (b1) cs (sU S1_7 6 (sU (S1_7 6) 6 (0 : Int32))))]) := hD'
  replace hR := bn_e hR
  obtain ⟨S1_12, eS1_12, hR⟩ := hR
  replace hP : va_P (dC, dI) vwCl (fl [(w_X11 ad (b1) cs S1_12)]) H12 := by rw [eS1_12]; exact hP'
  replace hD : va_D A (fl [(w_X11 ad (b1) cs S1_12)]) := by rw [eS1_12]; exact hD'
  clear hP' hD' hS'
  refine lv_iconst (v := 0) hx hb dX11_plays_15 ic_0 ?_
  refine lv_istore_n (lv' := [(1, .int (0 : Int32)), (0, .ref (ad b1))]) hx hb dX11_plays_16 rfl hl (Nat.le_of_ble_eq_true rfl) rfl (fun ls hl => ?_)
  refine lv_iconst (v := 1) hx hb dX11_plays_17 ic_1 ?_
  refine lv_istore_n (lv' := [(2, .int (1 : Int32)), (1, .int (0 : Int32)), (0, .ref (ad b1))]) hx hb dX11_plays_18 rfl hl (Nat.le_of_ble_eq_true rfl) rfl (fun ls hl => ?_)
  exact hB19 fuel S1_12 (0 : Int32) (1 : Int32) H12 _ ls hR hP hD hS (lv_sub hl [2, 1, 0] rfl)
set_option maxHeartbeats 8000000 in
set_option maxRecDepth 100000 in
theorem k_X11_fault (l : Launch) (dC : Nat → ClassId) (dI : Nat → Nat → Nat) (cs : Nat → ClassId) (ad : Nat → Nat) (b1 : Nat) (sz : Nat) (S1 : T2) (p1 : Int32) (r : Int32) (u1 : T2) (hR : fX11_fault S1 p1 = some (r, u1)) : Met l yX11_fault wsX11_fault ({ frames := 9, cells := 0, slots := 0, locals := 201 } : Room) (va_Pc [.ref (ad b1), .int p1] (pW dC dI (tyL cs) (fl [(w_X11 ad (b1) cs S1)]) sz)) (QI dC dI (tyL cs) (va_A (fl [(w_X11 ad (b1) cs S1)]) sz) (fl [(w_X11 ad (b1) cs u1)]) r) 0 0 (va_A (fl [(w_X11 ad (b1) cs S1)]) sz) := by
  refine mt_of (own := RX11) (cc := cX11_fault) (maxL := 3) (ret := (some .int)) (Qc := fun A => QI dC dI (tyL cs) A (fl [(w_X11 ad (b1) cs u1)]) r) rfl (by decide) rfl (Nat.le_of_ble_eq_true rfl) (fun p e s m below meth c A ls hsz hx hb hr hts hown hlocks hml hA hK hP hD hS hl => ?_)
  subst hsz
  have hl : lv_has ls 3 [(0, .ref (ad b1)), (1, .int p1)] := hl
  have hF7 := hts (.fieldLink RX11 7 "DockedBikesModel" "s" "[I") (List.mem_of_getElem? (i := 1) rfl)
  have hF16 := hts (.fieldLink RX11 16 "DockedBikesModel" "held" "[I") (List.mem_of_getElem? (i := 2) rfl)
  have hF214 := hts (.fieldLink RX11 214 "DockedBikesModel" "cause" "I") (List.mem_of_getElem? (i := 3) rfl)
  have hinX11 : ∀ w ∈ wsX110, w ∈ wsX11_fault := by decide +kernel
  refine lv_iload_n hx hb dX11_fault_0 rfl (lv_at hl 1 rfl) ?_
  refine lv_iconst (v := 0) hx hb dX11_fault_1 ic_0 ?_
  refine lv_iconst (v := 2) hx hb dX11_fault_2 ic_2 ?_
  replace hR := bd_e hR
  obtain ⟨q3, gq3, hR⟩ := hR
  refine cl_Si (As := [.int p1, .int (0 : Int32), .int (2 : Int32)]) (rest := []) (L := [(w_X11 ad (b1) cs S1)]) (L' := [(w_X11 ad (b1) cs S1)]) (Wc := []) (Wc' := []) (is := []) (js := [0]) ⟨hx, hb, hml, hown, hts⟩ (k_X11_in l dC dI cs ad s.heap.size p1 (0 : Int32) (2 : Int32) q3 gq3) (cwS 3 hts gX11_fault_X11_in rfl rfl rfl cd_X11_in ⟨Nat.le_of_ble_eq_true rfl, Nat.le_of_ble_eq_true rfl⟩) hK hP hD hS hA ⟨rfl, rfl, rfl, rfl, rfl, rfl⟩ (jn_nd (is := []) hD rfl rfl) rfl rfl hl.1 (Nat.le_of_ble_eq_true rfl) dX11_fault_3 (fun H3 locs3 hP' hD' hS' => ?_)
  replace hS := hS'
  replace hP : va_P (dC, dI) vwCl (fl [(w_X11 ad (b1) cs S1)]) H3 := hP'
  replace hD : va_D A (fl [(w_X11 ad (b1) cs S1)]) := hD'
  clear hP' hD' hS'
  refine lv_if_ne (tgt := 11) hx hb dX11_fault_6 (by decide) (fun c6 => ?_) (fun c6 => ?_)
  · replace hR := it_f hR c6
    refine lv_aload_n hx hb dX11_fault_11 rfl (lv_at hl 0 rfl) ?_
    refine va_get (D := (dC, dI)) (ci := 9) (v := .ref (ad (b1 + 1))) (C := RX11) (T := TX11) (N := 14) hx hb hts hinX11 hown hK hP 0 rfl rfl 0 (by decide) hF7 (fun _ h9 => h9) rfl dX11_fault_12 ?_
    refine lv_aload_n hx hb dX11_fault_15 rfl (lv_at hl 0 rfl) ?_
    refine va_get (D := (dC, dI)) (ci := 9) (v := .ref (ad (b1 + 3))) (C := RX11) (T := TX11) (N := 14) hx hb hts hinX11 hown hK hP 0 rfl rfl 2 (by decide) hF16 (fun _ h9 => h9) rfl dX11_fault_16 ?_
    replace hR := bd_e hR
    obtain ⟨q19, gq19, hR⟩ := hR
    replace hP : va_P (dC, dI) vwCl (fl [[((ad b1), .inr (9, [.ref (ad (b1 + 1)), .ref (ad (b1 + 2)), .ref (ad (b1 + 3)), .ref (ad (b1 + 4)), .int (S1 6 0), .int (S1 6 1), .int (S1 6 2), .ref (ad (b1 + 5)), .int (S1 6 3), .int (S1 6 4), .int (S1 6 5), .int (S1 6 6), .int (S1 6 7), .ref (ad (b1 + 6))]))], (w_A206 ad (b1 + 1) cs (S1 0)), [((ad (b1 + 2)), .inl (cs 0, 824, .inl (S1 1)))], (w_A206 ad (b1 + 3) cs (S1 2)), (w_A206 ad (b1 + 4) cs (S1 3)), [((ad (b1 + 5)), .inl (cs 0, 60, .inl (S1 4)))], [((ad (b1 + 6)), .inl (cs 0, 2, .inl (S1 5)))]]) H3 := hP
    replace hD : va_D A (fl [[((ad b1), .inr (9, [.ref (ad (b1 + 1)), .ref (ad (b1 + 2)), .ref (ad (b1 + 3)), .ref (ad (b1 + 4)), .int (S1 6 0), .int (S1 6 1), .int (S1 6 2), .ref (ad (b1 + 5)), .int (S1 6 3), .int (S1 6 4), .int (S1 6 5), .int (S1 6 6), .int (S1 6 7), .ref (ad (b1 + 6))]))], (w_A206 ad (b1 + 1) cs (S1 0)), [((ad (b1 + 2)), .inl (cs 0, 824, .inl (S1 1)))], (w_A206 ad (b1 + 3) cs (S1 2)), (w_A206 ad (b1 + 4) cs (S1 3)), [((ad (b1 + 5)), .inl (cs 0, 60, .inl (S1 4)))], [((ad (b1 + 6)), .inl (cs 0, 2, .inl (S1 5)))]]) := hD
    refine cl_Sv (As := [.ref (ad (b1 + 1)), .ref (ad (b1 + 3))]) (rest := []) (L := [[((ad b1), .inr (9, [.ref (ad (b1 + 1)), .ref (ad (b1 + 2)), .ref (ad (b1 + 3)), .ref (ad (b1 + 4)), .int (S1 6 0), .int (S1 6 1), .int (S1 6 2), .ref (ad (b1 + 5)), .int (S1 6 3), .int (S1 6 4), .int (S1 6 5), .int (S1 6 6), .int (S1 6 7), .ref (ad (b1 + 6))]))], (w_A206 ad (b1 + 1) cs (S1 0)), [((ad (b1 + 2)), .inl (cs 0, 824, .inl (S1 1)))], (w_A206 ad (b1 + 3) cs (S1 2)), (w_A206 ad (b1 + 4) cs (S1 3)), [((ad (b1 + 5)), .inl (cs 0, 60, .inl (S1 4)))], [((ad (b1 + 6)), .inl (cs 0, 2, .inl (S1 5)))]]) (L' := [[((ad b1), .inr (9, [.ref (ad (b1 + 1)), .ref (ad (b1 + 2)), .ref (ad (b1 + 3)), .ref (ad (b1 + 4)), .int ((sU S1 2 q19) 6 0), .int ((sU S1 2 q19) 6 1), .int ((sU S1 2 q19) 6 2), .ref (ad (b1 + 5)), .int ((sU S1 2 q19) 6 3), .int ((sU S1 2 q19) 6 4), .int ((sU S1 2 q19) 6 5), .int ((sU S1 2 q19) 6 6), .int ((sU S1 2 q19) 6 7), .ref (ad (b1 + 6))]))], (w_A206 ad (b1 + 1) cs ((sU S1 2 q19) 0)), [((ad (b1 + 2)), .inl (cs 0, 824, .inl ((sU S1 2 q19) 1)))], (w_A206 ad (b1 + 3) cs ((sU S1 2 q19) 2)), (w_A206 ad (b1 + 4) cs ((sU S1 2 q19) 3)), [((ad (b1 + 5)), .inl (cs 0, 60, .inl ((sU S1 2 q19) 4)))], [((ad (b1 + 6)), .inl (cs 0, 2, .inl ((sU S1 2 q19) 5)))]]) (Wc := [(w_A206 ad (b1 + 1) cs (S1 0)), (w_A206 ad (b1 + 3) cs (S1 2))]) (Wc' := [(w_A206 ad (b1 + 1) cs (S1 0)), (w_A206 ad (b1 + 3) cs q19)]) (is := [1, 3]) (js := [0, 2, 4, 5, 6]) ⟨hx, hb, hml, hown, hts⟩ (k_X11_copies l dC dI cs ad (b1 + 1) (b1 + 3) H3.size (S1 0) (S1 2) q19 gq19) (cwS 2 hts gX11_fault_X11_copies rfl rfl rfl cd_X11_copies ⟨Nat.le_of_ble_eq_true rfl, Nat.le_of_ble_eq_true rfl⟩) hK hP hD hS hA ⟨rfl, rfl, rfl, rfl, rfl, rfl⟩ (jn_nd (is := [1, 3]) hD rfl rfl) rfl rfl hl.1 (Nat.le_of_ble_eq_true rfl) dX11_fault_19 (fun H19 locs19 hP' hD' hS' => ?_)
    replace hS := hS'
    have hP' : va_P (dC, dI) vwCl (fl [(w_X11 ad (b1) cs (sU S1 2 q19))]) H19 := hP'
    have hD' : va_D A (fl [(w_X11 ad (b1) cs (sU S1 2 q19))]) := hD'
    replace hR := bn_e hR
    obtain ⟨S1_19, eS1_19, hR⟩ := hR
    replace hP : va_P (dC, dI) vwCl (fl [(w_X11 ad (b1) cs S1_19)]) H19 := by rw [eS1_19]; exact hP'
    replace hD : va_D A (fl [(w_X11 ad (b1) cs S1_19)]) := by rw [eS1_19]; exact hD'
    clear hP' hD' hS'
    refine lv_aload_n hx hb dX11_fault_22 rfl (lv_at hl 0 rfl) ?_
    replace hR := bd_e hR
    obtain ⟨q23, gq23, hR⟩ := hR
    refine cl_Vi (As := []) (rest := []) (L := [(w_X11 ad (b1) cs S1_19)]) (L' := [(w_X11 ad (b1) cs q23.2)]) (Wc := [(w_X11 ad (b1) cs S1_19)]) (Wc' := [(w_X11 ad (b1) cs q23.2)]) (is := [0]) (js := []) ⟨hx, hb, hml, hown, hts⟩ (k_X11_plays l dC dI cs ad (b1) H19.size S1_19 q23.1 q23.2 gq23) (cwV 0 hts gX11_fault_X11_plays rfl rfl rfl cd_X11_plays ⟨Nat.le_of_ble_eq_true rfl, Nat.le_of_ble_eq_true rfl⟩) hK hP hD hS hA ⟨rfl, rfl, rfl, rfl, rfl, rfl⟩ (jn_nd (is := [0]) hD rfl rfl) 0 9 rfl rfl rfl rfl rfl hl.1 (Nat.le_of_ble_eq_true rfl) dX11_fault_23 (fun H23 locs23 hP' hD' hS' => ?_)
    replace hS := hS'
    replace hP : va_P (dC, dI) vwCl (fl [(w_X11 ad (b1) cs q23.2)]) H23 := hP'
    replace hD : va_D A (fl [(w_X11 ad (b1) cs q23.2)]) := hD'
    clear hP' hD' hS'
    refine lv_istore_n (lv' := [(2, .int q23.1), (0, .ref (ad b1)), (1, .int p1)]) hx hb dX11_fault_26 rfl hl (Nat.le_of_ble_eq_true rfl) rfl (fun ls hl => ?_)
    refine lv_aload_n hx hb dX11_fault_27 rfl (lv_at hl 1 rfl) ?_
    refine va_get (D := (dC, dI)) (ci := 9) (v := .ref (ad (b1 + 3))) (C := RX11) (T := TX11) (N := 14) hx hb hts hinX11 hown hK hP 0 rfl rfl 2 (by decide) hF16 (fun _ h9 => h9) rfl dX11_fault_28 ?_
    refine lv_aload_n hx hb dX11_fault_31 rfl (lv_at hl 1 rfl) ?_
    refine va_get (D := (dC, dI)) (ci := 9) (v := .ref (ad (b1 + 1))) (C := RX11) (T := TX11) (N := 14) hx hb hts hinX11 hown hK hP 0 rfl rfl 0 (by decide) hF7 (fun _ h9 => h9) rfl dX11_fault_32 ?_
    replace hR := bd_e hR
    obtain ⟨q35, gq35, hR⟩ := hR
    replace hP : va_P (dC, dI) vwCl (fl [[((ad b1), .inr (9, [.ref (ad (b1 + 1)), .ref (ad (b1 + 2)), .ref (ad (b1 + 3)), .ref (ad (b1 + 4)), .int (q23.2 6 0), .int (q23.2 6 1), .int (q23.2 6 2), .ref (ad (b1 + 5)), .int (q23.2 6 3), .int (q23.2 6 4), .int (q23.2 6 5), .int (q23.2 6 6), .int (q23.2 6 7), .ref (ad (b1 + 6))]))], (w_A206 ad (b1 + 1) cs (q23.2 0)), [((ad (b1 + 2)), .inl (cs 0, 824, .inl (q23.2 1)))], (w_A206 ad (b1 + 3) cs (q23.2 2)), (w_A206 ad (b1 + 4) cs (q23.2 3)), [((ad (b1 + 5)), .inl (cs 0, 60, .inl (q23.2 4)))], [((ad (b1 + 6)), .inl (cs 0, 2, .inl (q23.2 5)))]]) H23 := hP
    replace hD : va_D A (fl [[((ad b1), .inr (9, [.ref (ad (b1 + 1)), .ref (ad (b1 + 2)), .ref (ad (b1 + 3)), .ref (ad (b1 + 4)), .int (q23.2 6 0), .int (q23.2 6 1), .int (q23.2 6 2), .ref (ad (b1 + 5)), .int (q23.2 6 3), .int (q23.2 6 4), .int (q23.2 6 5), .int (q23.2 6 6), .int (q23.2 6 7), .ref (ad (b1 + 6))]))], (w_A206 ad (b1 + 1) cs (q23.2 0)), [((ad (b1 + 2)), .inl (cs 0, 824, .inl (q23.2 1)))], (w_A206 ad (b1 + 3) cs (q23.2 2)), (w_A206 ad (b1 + 4) cs (q23.2 3)), [((ad (b1 + 5)), .inl (cs 0, 60, .inl (q23.2 4)))], [((ad (b1 + 6)), .inl (cs 0, 2, .inl (q23.2 5)))]]) := hD
    refine cl_Sv (As := [.ref (ad (b1 + 3)), .ref (ad (b1 + 1))]) (rest := []) (L := [[((ad b1), .inr (9, [.ref (ad (b1 + 1)), .ref (ad (b1 + 2)), .ref (ad (b1 + 3)), .ref (ad (b1 + 4)), .int (q23.2 6 0), .int (q23.2 6 1), .int (q23.2 6 2), .ref (ad (b1 + 5)), .int (q23.2 6 3), .int (q23.2 6 4), .int (q23.2 6 5), .int (q23.2 6 6), .int (q23.2 6 7), .ref (ad (b1 + 6))]))], (w_A206 ad (b1 + 1) cs (q23.2 0)), [((ad (b1 + 2)), .inl (cs 0, 824, .inl (q23.2 1)))], (w_A206 ad (b1 + 3) cs (q23.2 2)), (w_A206 ad (b1 + 4) cs (q23.2 3)), [((ad (b1 + 5)), .inl (cs 0, 60, .inl (q23.2 4)))], [((ad (b1 + 6)), .inl (cs 0, 2, .inl (q23.2 5)))]]) (L' := [[((ad b1), .inr (9, [.ref (ad (b1 + 1)), .ref (ad (b1 + 2)), .ref (ad (b1 + 3)), .ref (ad (b1 + 4)), .int ((sU q23.2 0 q35) 6 0), .int ((sU q23.2 0 q35) 6 1), .int ((sU q23.2 0 q35) 6 2), .ref (ad (b1 + 5)), .int ((sU q23.2 0 q35) 6 3), .int ((sU q23.2 0 q35) 6 4), .int ((sU q23.2 0 q35) 6 5), .int ((sU q23.2 0 q35) 6 6), .int ((sU q23.2 0 q35) 6 7), .ref (ad (b1 + 6))]))], (w_A206 ad (b1 + 1) cs ((sU q23.2 0 q35) 0)), [((ad (b1 + 2)), .inl (cs 0, 824, .inl ((sU q23.2 0 q35) 1)))], (w_A206 ad (b1 + 3) cs ((sU q23.2 0 q35) 2)), (w_A206 ad (b1 + 4) cs ((sU q23.2 0 q35) 3)), [((ad (b1 + 5)), .inl (cs 0, 60, .inl ((sU q23.2 0 q35) 4)))], [((ad (b1 + 6)), .inl (cs 0, 2, .inl ((sU q23.2 0 q35) 5)))]]) (Wc := [(w_A206 ad (b1 + 3) cs (q23.2 2)), (w_A206 ad (b1 + 1) cs (q23.2 0))]) (Wc' := [(w_A206 ad (b1 + 3) cs (q23.2 2)), (w_A206 ad (b1 + 1) cs q35)]) (is := [3, 1]) (js := [0, 2, 4, 5, 6]) ⟨hx, hb, hml, hown, hts⟩ (k_X11_copies l dC dI cs ad (b1 + 3) (b1 + 1) H23.size (q23.2 2) (q23.2 0) q35 gq35) (cwS 2 hts gX11_fault_X11_copies rfl rfl rfl cd_X11_copies ⟨Nat.le_of_ble_eq_true rfl, Nat.le_of_ble_eq_true rfl⟩) hK hP hD hS hA ⟨rfl, rfl, rfl, rfl, rfl, rfl⟩ (jn_nd (is := [3, 1]) hD rfl rfl) rfl rfl hl.1 (Nat.le_of_ble_eq_true rfl) dX11_fault_35 (fun H35 locs35 hP' hD' hS' => ?_)
    replace hS := hS'
    have hP' : va_P (dC, dI) vwCl (fl [(w_X11 ad (b1) cs (sU q23.2 0 q35))]) H35 := hP'
    have hD' : va_D A (fl [(w_X11 ad (b1) cs (sU q23.2 0 q35))]) := hD'
    replace hR := bn_e hR
    obtain ⟨S1_35, eS1_35, hR⟩ := hR
    replace hP : va_P (dC, dI) vwCl (fl [(w_X11 ad (b1) cs S1_35)]) H35 := by rw [eS1_35]; exact hP'
    replace hD : va_D A (fl [(w_X11 ad (b1) cs S1_35)]) := by rw [eS1_35]; exact hD'
    clear hP' hD' hS'
    refine lv_iload_n hx hb dX11_fault_38 rfl (lv_at hl 0 rfl) ?_
    refine lv_bipush (v := (-4)) hx hb dX11_fault_39 bp_m4 ?_
    refine lv_icmp_eq (tgt := 48) hx hb dX11_fault_41 (by decide) (fun c41 => ?_) (fun c41 => ?_)
    · replace hR := it_t hR c41
      refine lv_iload_n hx hb dX11_fault_48 rfl (lv_at hl 0 rfl) ?_
      refine lv_goto (tgt := 88) hx hb dX11_fault_49 (by decide) ?_
      replace hR := Option.some.inj hR
      obtain ⟨e9, hR⟩ := Prod.mk.inj hR
      have eu1 := hR
      replace hP : va_P (dC, dI) vwCl (fl [(w_X11 ad (b1) cs u1)]) H35 := by rw [← eu1]; exact hP
      replace hD : va_D A (fl [(w_X11 ad (b1) cs u1)]) := by rw [← eu1]; exact hD
      exact W.iret hx hb hr (fun t ht hW => ⟨⟨_, (), rfl, e9, by rw [ht]; exact hP, va_K.moved hW.alike hK, hD⟩, hS.F ht⟩) hS.2.2 dX11_fault_88
    · replace hR := it_f hR c41
      refine lv_iload_n hx hb dX11_fault_44 rfl (lv_at hl 2 rfl) ?_
      refine lv_if_ne (tgt := 52) hx hb dX11_fault_45 (by decide) (fun c45 => ?_) (fun c45 => ?_)
      · replace hR := it_f hR c45
        refine lv_iload_n hx hb dX11_fault_52 rfl (lv_at hl 2 rfl) ?_
        refine lv_iconst (v := 1) hx hb dX11_fault_53 ic_1 ?_
        refine lv_icmp_ne (tgt := 72) hx hb dX11_fault_54 (by decide) (fun c54 => ?_) (fun c54 => ?_)
        · replace hR := it_f hR c54
          refine lv_aload_n hx hb dX11_fault_72 rfl (lv_at hl 1 rfl) ?_
          refine va_get (D := (dC, dI)) (ci := 9) (v := .int (S1_35 6 5)) (C := RX11) (T := TX11) (N := 14) hx hb hts hinX11 hown hK hP 0 rfl rfl 10 (by decide) hF214 (fun _ h9 => h9) rfl dX11_fault_73 ?_
          refine lv_if_ne (tgt := 84) hx hb dX11_fault_76 (by decide) (fun c76 => ?_) (fun c76 => ?_)
          · replace hR := it_f hR c76
            refine lv_aload_n hx hb dX11_fault_84 rfl (lv_at hl 1 rfl) ?_
            refine va_get (D := (dC, dI)) (ci := 9) (v := .int (S1_35 6 5)) (C := RX11) (T := TX11) (N := 14) hx hb hts hinX11 hown hK hP 0 rfl rfl 10 (by decide) hF214 (fun _ h9 => h9) rfl dX11_fault_85 ?_
            replace hR := Option.some.inj hR
            obtain ⟨e9, hR⟩ := Prod.mk.inj hR
            have eu1 := hR
            replace hP : va_P (dC, dI) vwCl (fl [(w_X11 ad (b1) cs u1)]) H35 := by rw [← eu1]; exact hP
            replace hD : va_D A (fl [(w_X11 ad (b1) cs u1)]) := by rw [← eu1]; exact hD
            exact W.iret hx hb hr (fun t ht hW => ⟨⟨_, (), rfl, e9, by rw [ht]; exact hP, va_K.moved hW.alike hK, hD⟩, hS.F ht⟩) hS.2.2 dX11_fault_88
          · replace hR := it_t hR c76
            refine lv_bipush (v := (-4)) hx hb dX11_fault_79 bp_m4 ?_
            refine lv_goto (tgt := 88) hx hb dX11_fault_81 (by decide) ?_
            replace hR := Option.some.inj hR
            obtain ⟨e9, hR⟩ := Prod.mk.inj hR
            have eu1 := hR
            replace hP : va_P (dC, dI) vwCl (fl [(w_X11 ad (b1) cs u1)]) H35 := by rw [← eu1]; exact hP
            replace hD : va_D A (fl [(w_X11 ad (b1) cs u1)]) := by rw [← eu1]; exact hD
            exact W.iret hx hb hr (fun t ht hW => ⟨⟨_, (), rfl, e9, by rw [ht]; exact hP, va_K.moved hW.alike hK, hD⟩, hS.F ht⟩) hS.2.2 dX11_fault_88
        · replace hR := it_t hR c54
          refine lv_aload_n hx hb dX11_fault_57 rfl (lv_at hl 1 rfl) ?_
          refine va_get (D := (dC, dI)) (ci := 9) (v := .int (S1_35 6 5)) (C := RX11) (T := TX11) (N := 14) hx hb hts hinX11 hown hK hP 0 rfl rfl 10 (by decide) hF214 (fun _ h9 => h9) rfl dX11_fault_58 ?_
          refine lv_if_ne (tgt := 68) hx hb dX11_fault_61 (by decide) (fun c61 => ?_) (fun c61 => ?_)
          · replace hR := it_f hR c61
            refine lv_iconst (v := 2) hx hb dX11_fault_68 ic_2 ?_
            refine lv_goto (tgt := 88) hx hb dX11_fault_69 (by decide) ?_
            replace hR := Option.some.inj hR
            obtain ⟨e9, hR⟩ := Prod.mk.inj hR
            have eu1 := hR
            replace hP : va_P (dC, dI) vwCl (fl [(w_X11 ad (b1) cs u1)]) H35 := by rw [← eu1]; exact hP
            replace hD : va_D A (fl [(w_X11 ad (b1) cs u1)]) := by rw [← eu1]; exact hD
            exact W.iret hx hb hr (fun t ht hW => ⟨⟨_, (), rfl, e9, by rw [ht]; exact hP, va_K.moved hW.alike hK, hD⟩, hS.F ht⟩) hS.2.2 dX11_fault_88
          · replace hR := it_t hR c61
            refine lv_iconst (v := 1) hx hb dX11_fault_64 ic_1 ?_
            refine lv_goto (tgt := 88) hx hb dX11_fault_65 (by decide) ?_
            replace hR := Option.some.inj hR
            obtain ⟨e9, hR⟩ := Prod.mk.inj hR
            have eu1 := hR
            replace hP : va_P (dC, dI) vwCl (fl [(w_X11 ad (b1) cs u1)]) H35 := by rw [← eu1]; exact hP
            replace hD : va_D A (fl [(w_X11 ad (b1) cs u1)]) := by rw [← eu1]; exact hD
            exact W.iret hx hb hr (fun t ht hW => ⟨⟨_, (), rfl, e9, by rw [ht]; exact hP, va_K.moved hW.alike hK, hD⟩, hS.F ht⟩) hS.2.2 dX11_fault_88
      · replace hR := it_t hR c45
        refine lv_iload_n hx hb dX11_fault_48 rfl (lv_at hl 0 rfl) ?_
        refine lv_goto (tgt := 88) hx hb dX11_fault_49 (by decide) ?_
        replace hR := Option.some.inj hR
        obtain ⟨e9, hR⟩ := Prod.mk.inj hR
        have eu1 := hR
        replace hP : va_P (dC, dI) vwCl (fl [(w_X11 ad (b1) cs u1)]) H35 := by rw [← eu1]; exact hP
        replace hD : va_D A (fl [(w_X11 ad (b1) cs u1)]) := by rw [← eu1]; exact hD
        exact W.iret hx hb hr (fun t ht hW => ⟨⟨_, (), rfl, e9, by rw [ht]; exact hP, va_K.moved hW.alike hK, hD⟩, hS.F ht⟩) hS.2.2 dX11_fault_88
  · replace hR := it_t hR c6
    refine lv_iconst (v := (-1)) hx hb dX11_fault_9 ic_m1 ?_
    replace hR := Option.some.inj hR
    obtain ⟨e9, hR⟩ := Prod.mk.inj hR
    have eu1 := hR
    replace hP : va_P (dC, dI) vwCl (fl [(w_X11 ad (b1) cs u1)]) H3 := by rw [← eu1]; exact hP
    replace hD : va_D A (fl [(w_X11 ad (b1) cs u1)]) := by rw [← eu1]; exact hD
    exact W.iret hx hb hr (fun t ht hW => ⟨⟨_, (), rfl, e9, by rw [ht]; exact hP, va_K.moved hW.alike hK, hD⟩, hS.F ht⟩) hS.2.2 dX11_fault_10
