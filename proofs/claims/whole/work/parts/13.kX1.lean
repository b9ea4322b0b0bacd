set_option maxHeartbeats 8000000 in
set_option maxRecDepth 100000 in
theorem k_X2_leastWay (l : Launch) (dC : Nat → ClassId) (dI : Nat → Nat → Nat) (cs : Nat → ClassId) (ad : Nat → Nat) (b1 b2 : Nat) (sz : Nat) (S1 : T2) (S2 : T3) (r : Int32) (u1 : T2) (hR : fX2_leastWay S1 S2 = some (r, u1)) : Met l yX2_leastWay wsX2_leastWay ({ frames := 2, cells := 0, slots := 0, locals := 48 } : Room) (va_Pc [.ref (ad b1), .ref (ad b2)] (pW dC dI (tyL cs) (fl [(w_X2 ad (b1) cs S1), (w_X5 ad (b2) cs S2)]) sz)) (QI dC dI (tyL cs) (va_A (fl [(w_X2 ad (b1) cs S1), (w_X5 ad (b2) cs S2)]) sz) (fl [(w_X2 ad (b1) cs u1), (w_X5 ad (b2) cs S2)]) r) 0 0 (va_A (fl [(w_X2 ad (b1) cs S1), (w_X5 ad (b2) cs S2)]) sz) := by
  refine mt_of (own := RX2) (cc := cX2_leastWay) (maxL := 4) (ret := (some .int)) (Qc := fun A => QI dC dI (tyL cs) A (fl [(w_X2 ad (b1) cs u1), (w_X5 ad (b2) cs S2)]) r) rfl (by decide) rfl (Nat.le_of_ble_eq_true rfl) (fun p e s m below meth c A ls hsz hx hb hr hts hown hlocks hml hA hK hP hD hS hl => ?_)
  subst hsz
  have hl : lv_has ls 4 [(0, .ref (ad b1)), (1, .ref (ad b2))] := hl
  have hF9 := hts (.fieldLink RX2 9 "DockedBikes$Filling" "aims" "[I") (List.mem_of_getElem? (i := 4) rfl)
  have hF15 := hts (.fieldLink RX2 15 "DockedBikes$Filling" "surplus" "[I") (List.mem_of_getElem? (i := 3) rfl)
  have hF22 := hts (.fieldLink RX2 22 "DockedBikes$Road" "stations" "LDockedBikes$Stations;") (List.mem_of_getElem? (i := 1) rfl)
  have hF45 := hts (.fieldLink RX2 45 "DockedBikes$Stations" "size" "I") (List.mem_of_getElem? (i := 2) rfl)
  have hinX2 : ∀ w ∈ wsX20, w ∈ wsX2_leastWay := by decide +kernel
  have hinX5 : ∀ w ∈ wsX50, w ∈ wsX2_leastWay := by decide +kernel
  have hinX6 : ∀ w ∈ wsX60, w ∈ wsX2_leastWay := by decide +kernel
  have hB46 : ∀ (n46 : Nat), ∀ (S1_46h : T2) (v2_46 : Int32) (v3_46 : Int32) (H : Heap) (locs : List Loc) (ls : Array Slot), fX2_leastWay_46 S2 n46 S1_46h v2_46 v3_46 = some (r, u1) → va_P (dC, dI) vwCl (fl [(w_X2 ad (b1) cs S1_46h), (w_X5 ad (b2) cs S2)]) H → va_D A (fl [(w_X2 ad (b1) cs S1_46h), (w_X5 ad (b2) cs S2)]) → va_S A s.heap H locs → lv_has ls 4 [(0, .ref (ad b1)), (1, .ref (ad b2)), (2, .int v2_46), (3, .int v3_46)] → W p l e (headSpec wsX2_leastWay ({ frames := 2, cells := 0, slots := 0, locals := 48 } : Room)).room s m ([.ref (ad b1), .ref (ad b2)] : List Value).toArray below meth c H locs 0 0 (MQ below (QI dC dI (tyL cs) A (fl [(w_X2 ad (b1) cs u1), (w_X5 ad (b2) cs S2)]) r) ([.ref (ad b1), .ref (ad b2)] : List Value).toArray s 0 0 A) (F0 m 46 ls []) := by
    intro n46
    induction n46 with
    | zero =>
      intro S1_46h v2_46 v3_46 H locs ls hR hP hD hS hl
      exact nn_e hR
    | succ n46 hI46 =>
      intro S1_46h v2_46 v3_46 H locs ls hR hP hD hS hl
      rw [fX2_leastWay_46] at hR
      refine lv_iload_n hx hb dX2_leastWay_46 rfl (lv_at hl 3 rfl) ?_
      refine lv_bipush (v := 99) hx hb dX2_leastWay_47 bp_99 ?_
      refine lv_icmp_ge (tgt := 73) hx hb dX2_leastWay_49 (by decide) (fun c49 => ?_) (fun c49 => ?_)
      · replace hR := it_t hR c49
        refine lv_iload_n hx hb dX2_leastWay_73 rfl (lv_at hl 2 rfl) ?_
        replace hR := Option.some.inj hR
        obtain ⟨e9, hR⟩ := Prod.mk.inj hR
        have eu1 := hR
        replace hP : va_P (dC, dI) vwCl (fl [(w_X2 ad (b1) cs u1), (w_X5 ad (b2) cs S2)]) H := by rw [← eu1]; exact hP
        replace hD : va_D A (fl [(w_X2 ad (b1) cs u1), (w_X5 ad (b2) cs S2)]) := by rw [← eu1]; exact hD
        exact W.iret hx hb hr (fun t ht hW => ⟨⟨_, (), rfl, e9, by rw [ht]; exact hP, va_K.moved hW.alike hK, hD⟩, hS.F ht⟩) hS.2.2 dX2_leastWay_74
      · replace hR := it_f hR c49
        refine lv_iload_n hx hb dX2_leastWay_52 rfl (lv_at hl 2 rfl) ?_
        refine lv_aload_n hx hb dX2_leastWay_53 rfl (lv_at hl 0 rfl) ?_
        refine lv_aload_n hx hb dX2_leastWay_54 rfl (lv_at hl 1 rfl) ?_
        refine va_get (D := (dC, dI)) (ci := 4) (v := .ref (ad (b2 + 1))) (C := RX5) (T := TX5) (N := 6) hx hb hts hinX5 hown hK hP 3 rfl rfl 0 (by decide) hF22 (fun _ h9 => h9) rfl dX2_leastWay_55 ?_
        refine lv_iload_n hx hb dX2_leastWay_58 rfl (lv_at hl 3 rfl) ?_
        replace hR := bd_e hR
        obtain ⟨q59, gq59, hR⟩ := hR
        replace hP : va_P (dC, dI) vwCl (fl [(w_X2 ad (b1) cs S1_46h), [((ad b2), .inr (4, [.ref (ad (b2 + 1)), .ref (ad (b2 + 6)), .ref (ad (b2 + 13)), .ref (ad (b2 + 23)), .ref (ad (b2 + 27)), .int (S2 4 1 0)]))], (w_X6 ad (b2 + 1) cs (S2 0)), (w_X1 ad (b2 + 6) cs (S2 1)), (w_X4 ad (b2 + 13) cs (S2 2)), (w_X8 ad (b2 + 23) cs (S2 3)), [((ad (b2 + 27)), .inl (cs 0, 3, .inl (S2 4 0)))]]) H := hP
        replace hD : va_D A (fl [(w_X2 ad (b1) cs S1_46h), [((ad b2), .inr (4, [.ref (ad (b2 + 1)), .ref (ad (b2 + 6)), .ref (ad (b2 + 13)), .ref (ad (b2 + 23)), .ref (ad (b2 + 27)), .int (S2 4 1 0)]))], (w_X6 ad (b2 + 1) cs (S2 0)), (w_X1 ad (b2 + 6) cs (S2 1)), (w_X4 ad (b2 + 13) cs (S2 2)), (w_X8 ad (b2 + 23) cs (S2 3)), [((ad (b2 + 27)), .inl (cs 0, 3, .inl (S2 4 0)))]]) := hD
        refine cl_Vi (As := [.ref (ad (b2 + 1)), .int v3_46]) (rest := [.int v2_46]) (L := [(w_X2 ad (b1) cs S1_46h), [((ad b2), .inr (4, [.ref (ad (b2 + 1)), .ref (ad (b2 + 6)), .ref (ad (b2 + 13)), .ref (ad (b2 + 23)), .ref (ad (b2 + 27)), .int (S2 4 1 0)]))], (w_X6 ad (b2 + 1) cs (S2 0)), (w_X1 ad (b2 + 6) cs (S2 1)), (w_X4 ad (b2 + 13) cs (S2 2)), (w_X8 ad (b2 + 23) cs (S2 3)), [((ad (b2 + 27)), .inl (cs 0, 3, .inl (S2 4 0)))]]) (L' := [(w_X2 ad (b1) cs S1_46h), [((ad b2), .inr (4, [.ref (ad (b2 + 1)), .ref (ad (b2 + 6)), .ref (ad (b2 + 13)), .ref (ad (b2 + 23)), .ref (ad (b2 + 27)), .int (S2 4 1 0)]))], (w_X6 ad (b2 + 1) cs (S2 0)), (w_X1 ad (b2 + 6) cs (S2 1)), (w_X4 ad (b2 + 13) cs (S2 2)), (w_X8 ad (b2 + 23) cs (S2 3)), [((ad (b2 + 27)), .inl (cs 0, 3, .inl (S2 4 0)))]]) (Wc := [(w_X2 ad (b1) cs S1_46h), (w_X6 ad (b2 + 1) cs (S2 0))]) (Wc' := [(w_X2 ad (b1) cs S1_46h), (w_X6 ad (b2 + 1) cs (S2 0))]) (is := [0, 2]) (js := [1, 3, 4, 5, 6]) ⟨hx, hb, hml, hown, hts⟩ (k_X2_surplusUpTo l dC dI cs ad (b1) (b2 + 1) H.size S1_46h (S2 0) v3_46 q59 gq59) (cwV 2 hts gX2_leastWay_X2_surplusUpTo rfl rfl rfl cd_X2_surplusUpTo ⟨Nat.le_of_ble_eq_true rfl, Nat.le_of_ble_eq_true rfl⟩) hK hP hD hS hA ⟨rfl, rfl, rfl, rfl, rfl, rfl⟩ (jn_nd (is := [0, 2]) hD rfl rfl) 0 1 rfl rfl rfl rfl rfl hl.1 (Nat.le_of_ble_eq_true rfl) dX2_leastWay_59 (fun H59 locs59 hP' hD' hS' => ?_)
        replace hS := hS'
        replace hP : va_P (dC, dI) vwCl (fl [(w_X2 ad (b1) cs S1_46h), (w_X5 ad (b2) cs S2)]) H59 := hP'
        replace hD : va_D A (fl [(w_X2 ad (b1) cs S1_46h), (w_X5 ad (b2) cs S2)]) := hD'
        clear hP' hD' hS'
        refine va_mabs hx hb (hml.trans hl.1.symm) hown (hts (.methodLink RX2 63 Lib.Math.abs.name) (List.mem_of_getElem? (i := 5) rfl)) (hts (.static Lib.Math.abs.name) (List.mem_of_getElem? (i := 6) rfl)) (hts (.initialized "java/lang/Math") (List.mem_of_getElem? (i := 7) rfl)) (hts (.code Lib.Math.abs.name Lib.Math.abs.code 1 (some .int)) (List.mem_of_getElem? (i := 8) rfl)) (Nat.le_of_ble_eq_true rfl) (Nat.le_of_ble_eq_true rfl) (Nat.zero_le _) (Nat.zero_le _) dX2_leastWay_62 ?_
        replace hR := bn_e hR
        obtain ⟨m62, em62, hR⟩ := hR
        refine tp_e em62 ?_
        refine lv_iadd hx hb dX2_leastWay_65 ?_
        refine lv_istore_n (lv' := [(2, .int (v2_46 + m62)), (0, .ref (ad b1)), (1, .ref (ad b2)), (3, .int v3_46)]) hx hb dX2_leastWay_66 rfl hl (Nat.le_of_ble_eq_true rfl) rfl (fun ls hl => ?_)
        refine lv_iinc (v := (v3_46 + 1)) (lv' := [(3, .int (v3_46 + 1)), (2, .int (v2_46 + m62)), (0, .ref (ad b1)), (1, .ref (ad b2))]) hx hb dX2_leastWay_67 hl (k := 3) rfl rfl (Nat.le_of_ble_eq_true rfl) rfl (fun ls hl => ?_)
        refine lv_goto (tgt := 46) hx hb dX2_leastWay_70 (by decide) ?_
        exact hI46 S1_46h (v2_46 + m62) (v3_46 + 1) H59 _ ls hR hP hD hS (lv_sub hl [2, 3, 1, 0] rfl)
  have hB7 : ∀ (n7 : Nat), ∀ (S1_7h : T2) (v2_7 : Int32) (H : Heap) (locs : List Loc) (ls : Array Slot), fX2_leastWay_7 S2 n7 S1_7h v2_7 = some (r, u1) → va_P (dC, dI) vwCl (fl [(w_X2 ad (b1) cs S1_7h), (w_X5 ad (b2) cs S2)]) H → va_D A (fl [(w_X2 ad (b1) cs S1_7h), (w_X5 ad (b2) cs S2)]) → va_S A s.heap H locs → lv_has ls 4 [(0, .ref (ad b1)), (1, .ref (ad b2)), (2, .int v2_7)] → W p l e (headSpec wsX2_leastWay ({ frames := 2, cells := 0, slots := 0, locals := 48 } : Room)).room s m ([.ref (ad b1), .ref (ad b2)] : List Value).toArray below meth c H locs 0 0 (MQ below (QI dC dI (tyL cs) A (fl [(w_X2 ad (b1) cs u1), (w_X5 ad (b2) cs S2)]) r) ([.ref (ad b1), .ref (ad b2)] : List Value).toArray s 0 0 A) (F0 m 7 ls []) := by
    intro n7
    induction n7 with
    | zero =>
      intro S1_7h v2_7 H locs ls hR hP hD hS hl
      exact nn_e hR
    | succ n7 hI7 =>
      intro S1_7h v2_7 H locs ls hR hP hD hS hl
      rw [fX2_leastWay_7] at hR
      refine lv_iload_n hx hb dX2_leastWay_7 rfl (lv_at hl 2 rfl) ?_
      refine lv_aload_n hx hb dX2_leastWay_8 rfl (lv_at hl 1 rfl) ?_
      refine va_get (D := (dC, dI)) (ci := 4) (v := .ref (ad (b2 + 1))) (C := RX5) (T := TX5) (N := 6) hx hb hts hinX5 hown hK hP 3 rfl rfl 0 (by decide) hF22 (fun _ h9 => h9) rfl dX2_leastWay_9 ?_
      refine va_get (D := (dC, dI)) (ci := 5) (v := .int (S2 0 4 0)) (C := RX6) (T := TX6) (N := 5) hx hb hts hinX6 hown hK hP 4 rfl rfl 0 (by decide) hF45 (fun _ h9 => h9) rfl dX2_leastWay_12 ?_
      refine lv_icmp_ge (tgt := 42) hx hb dX2_leastWay_15 (by decide) (fun c15 => ?_) (fun c15 => ?_)
      · replace hR := it_t hR c15
        refine lv_iconst (v := 0) hx hb dX2_leastWay_42 ic_0 ?_
        refine lv_istore_n (lv' := [(2, .int (0 : Int32)), (0, .ref (ad b1)), (1, .ref (ad b2))]) hx hb dX2_leastWay_43 rfl hl (Nat.le_of_ble_eq_true rfl) rfl (fun ls hl => ?_)
        refine lv_iconst (v := 0) hx hb dX2_leastWay_44 ic_0 ?_
        refine lv_istore_n (lv' := [(3, .int (0 : Int32)), (2, .int (0 : Int32)), (0, .ref (ad b1)), (1, .ref (ad b2))]) hx hb dX2_leastWay_45 rfl hl (Nat.le_of_ble_eq_true rfl) rfl (fun ls hl => ?_)
        exact hB46 fuel S1_7h (0 : Int32) (0 : Int32) H _ ls hR hP hD hS (lv_sub hl [2, 3, 1, 0] rfl)
      · replace hR := it_f hR c15
        refine lv_aload_n hx hb dX2_leastWay_18 rfl (lv_at hl 0 rfl) ?_
        refine va_get (D := (dC, dI)) (ci := 1) (v := .ref (ad (b1 + 2))) (C := RX2) (T := TX2) (N := 6) hx hb hts hinX2 hown hK hP 0 rfl rfl 5 (by decide) hF15 (fun _ h9 => h9) rfl dX2_leastWay_19 ?_
        refine lv_iload_n hx hb dX2_leastWay_22 rfl (lv_at hl 2 rfl) ?_
        refine lv_aload_n hx hb dX2_leastWay_23 rfl (lv_at hl 1 rfl) ?_
        refine lv_iload_n hx hb dX2_leastWay_24 rfl (lv_at hl 2 rfl) ?_
        replace hR := bd_e hR
        obtain ⟨q25, gq25, hR⟩ := hR
        refine cl_Vi (As := [.int v2_7]) (rest := [.int v2_7, .ref (ad (b1 + 2))]) (L := [(w_X2 ad (b1) cs S1_7h), (w_X5 ad (b2) cs S2)]) (L' := [(w_X2 ad (b1) cs S1_7h), (w_X5 ad (b2) cs S2)]) (Wc := [(w_X5 ad (b2) cs S2)]) (Wc' := [(w_X5 ad (b2) cs S2)]) (is := [1]) (js := [0]) ⟨hx, hb, hml, hown, hts⟩ (k_X5_docked l dC dI cs ad (b2) H.size S2 v2_7 q25 gq25) (cwV 1 hts gX2_leastWay_X5_docked rfl rfl rfl cd_X5_docked ⟨Nat.le_of_ble_eq_true rfl, Nat.le_of_ble_eq_true rfl⟩) hK hP hD hS hA ⟨rfl, rfl, rfl, rfl, rfl, rfl⟩ (jn_nd (is := [1]) hD rfl rfl) 3 4 rfl rfl rfl rfl rfl hl.1 (Nat.le_of_ble_eq_true rfl) dX2_leastWay_25 (fun H25 locs25 hP' hD' hS' => ?_)
        replace hS := hS'
        replace hP : va_P (dC, dI) vwCl (fl [(w_X2 ad (b1) cs S1_7h), (w_X5 ad (b2) cs S2)]) H25 := hP'
        replace hD : va_D A (fl [(w_X2 ad (b1) cs S1_7h), (w_X5 ad (b2) cs S2)]) := hD'
        clear hP' hD' hS'
        refine lv_aload_n hx hb dX2_leastWay_28 rfl (lv_at hl 0 rfl) ?_
        refine va_get (D := (dC, dI)) (ci := 1) (v := .ref (ad (b1 + 1))) (C := RX2) (T := TX2) (N := 6) hx hb hts hinX2 hown hK hP 0 rfl rfl 4 (by decide) hF9 (fun _ h9 => h9) rfl dX2_leastWay_29 ?_
        refine lv_iload_n hx hb dX2_leastWay_32 rfl (lv_at hl 2 rfl) ?_
        replace hR := gi_e hR
        obtain ⟨i33, hR⟩ := hR
        refine va_iald hx hb hK hP 1 0 rfl rfl i33 dX2_leastWay_33 ?_
        refine lv_isub hx hb dX2_leastWay_34 ?_
        replace hR := gi_e hR
        obtain ⟨i35, hR⟩ := hR
        refine va_iast hx hb hK hP hD hS 2 0 rfl rfl i35 dX2_leastWay_35 (fun H35 locs35 hP' hD' hS' => ?_)
        replace hS := hS'
        have hP' : va_P (dC, dI) vwCl (fl [(w_X2 ad (b1) cs (sU S1_7h 1 (sU (S1_7h 1) v2_7.toNatClampNeg (q25 - (S1_7h 0 v2_7.toNatClampNeg))))), (w_X5 ad (b2) cs S2)]) H35 := hP'
        have hD' : va_D A (fl [(w_X2 ad (b1) cs (sU S1_7h 1 (sU (S1_7h 1) v2_7.toNatClampNeg (q25 - (S1_7h 0 v2_7.toNatClampNeg))))), (w_X5 ad (b2) cs S2)]) := hD'
        replace hR := bn_e hR
        obtain ⟨S1_35, eS1_35, hR⟩ := hR
        replace hP : va_P (dC, dI) vwCl (fl [(w_X2 ad (b1) cs S1_35), (w_X5 ad (b2) cs S2)]) H35 := by rw [eS1_35]; exact hP'
        replace hD : va_D A (fl [(w_X2 ad (b1) cs S1_35), (w_X5 ad (b2) cs S2)]) := by rw [eS1_35]; exact hD'
        clear hP' hD' hS'
        refine lv_iinc (v := (v2_7 + 1)) (lv' := [(2, .int (v2_7 + 1)), (0, .ref (ad b1)), (1, .ref (ad b2))]) hx hb dX2_leastWay_36 hl (k := 2) rfl rfl (Nat.le_of_ble_eq_true rfl) rfl (fun ls hl => ?_)
        refine lv_goto (tgt := 7) hx hb dX2_leastWay_39 (by decide) ?_
        exact hI7 S1_35 (v2_7 + 1) H35 _ ls hR hP hD hS (lv_sub hl [1, 2, 0] rfl)
  refine lv_aload_n hx hb dX2_leastWay_0 rfl (lv_at hl 0 rfl) ?_
  refine lv_aload_n hx hb dX2_leastWay_1 rfl (lv_at hl 1 rfl) ?_
  replace hR := bd_e hR
  obtain ⟨q2, gq2, hR⟩ := hR
  refine cl_Vv (As := [.ref (ad b2)]) (rest := []) (L := [(w_X2 ad (b1) cs S1), (w_X5 ad (b2) cs S2)]) (L' := [(w_X2 ad (b1) cs q2), (w_X5 ad (b2) cs S2)]) (Wc := [(w_X2 ad (b1) cs S1), (w_X5 ad (b2) cs S2)]) (Wc' := [(w_X2 ad (b1) cs q2), (w_X5 ad (b2) cs S2)]) (is := [0, 1]) (js := []) ⟨hx, hb, hml, hown, hts⟩ (k_X2_findAims l dC dI cs ad (b1) (b2) s.heap.size S1 S2 q2 gq2) (cwV 1 hts gX2_leastWay_X2_findAims rfl rfl rfl cd_X2_findAims ⟨Nat.le_of_ble_eq_true rfl, Nat.le_of_ble_eq_true rfl⟩) hK hP hD hS hA ⟨rfl, rfl, rfl, rfl, rfl, rfl⟩ (jn_nd (is := [0, 1]) hD rfl rfl) 0 1 rfl rfl rfl rfl rfl hl.1 (Nat.le_of_ble_eq_true rfl) dX2_leastWay_2 (fun H2 locs2 hP' hD' hS' => ?_)
  replace hS := hS'
  replace hP : va_P (dC, dI) vwCl (fl [(w_X2 ad (b1) cs q2), (w_X5 ad (b2) cs S2)]) H2 := hP'
  replace hD : va_D A (fl [(w_X2 ad (b1) cs q2), (w_X5 ad (b2) cs S2)]) := hD'
  clear hP' hD' hS'
  refine lv_iconst (v := 0) hx hb dX2_leastWay_5 ic_0 ?_
  refine lv_istore_n (lv' := [(2, .int (0 : Int32)), (0, .ref (ad b1)), (1, .ref (ad b2))]) hx hb dX2_leastWay_6 rfl hl (Nat.le_of_ble_eq_true rfl) rfl (fun ls hl => ?_)
  exact hB7 fuel q2 (0 : Int32) H2 _ ls hR hP hD hS (lv_sub hl [1, 2, 0] rfl)
set_option maxHeartbeats 8000000 in
set_option maxRecDepth 100000 in
theorem k_X6_copy (l : Launch) (dC : Nat → ClassId) (dI : Nat → Nat → Nat) (cs : Nat → ClassId) (ad : Nat → Nat) (b1 b2 : Nat) (sz : Nat) (S1 : T2) (S2 : T2) (u1 : T2) (hR : fX6_copy S1 S2 = some u1) : Met l yX6_copy wsX6_copy ({ frames := 1, cells := 0, slots := 0, locals := 30 } : Room) (va_Pc [.ref (ad b1), .ref (ad b2)] (pW dC dI (tyL cs) (fl [(w_X6 ad (b1) cs S1), (w_X6 ad (b2) cs S2)]) sz)) (QV dC dI (tyL cs) (va_A (fl [(w_X6 ad (b1) cs S1), (w_X6 ad (b2) cs S2)]) sz) (fl [(w_X6 ad (b1) cs u1), (w_X6 ad (b2) cs S2)])) 0 0 (va_A (fl [(w_X6 ad (b1) cs S1), (w_X6 ad (b2) cs S2)]) sz) := by
  refine mt_of (own := RX6) (cc := cX6_copy) (maxL := 2) (ret := none) (Qc := fun A => QV dC dI (tyL cs) A (fl [(w_X6 ad (b1) cs u1), (w_X6 ad (b2) cs S2)])) rfl (by decide) rfl (Nat.le_of_ble_eq_true rfl) (fun p e s m below meth c A ls hsz hx hb hr hts hown hlocks hml hA hK hP hD hS hl => ?_)
  subst hsz
  have hl : lv_has ls 2 [(0, .ref (ad b1)), (1, .ref (ad b2))] := hl
  have hF11 := hts (.fieldLink RX6 11 "DockedBikes$Stations" "place" "[I") (List.mem_of_getElem? (i := 2) rfl)
  have hF15 := hts (.fieldLink RX6 15 "DockedBikes$Stations" "docks" "[I") (List.mem_of_getElem? (i := 7) rfl)
  have hF18 := hts (.fieldLink RX6 18 "DockedBikes$Stations" "began" "[I") (List.mem_of_getElem? (i := 8) rfl)
  have hF21 := hts (.fieldLink RX6 21 "DockedBikes$Stations" "ended" "[I") (List.mem_of_getElem? (i := 9) rfl)
  have hF24 := hts (.fieldLink RX6 24 "DockedBikes$Stations" "size" "I") (List.mem_of_getElem? (i := 1) rfl)
  have hinX6 : ∀ w ∈ wsX60, w ∈ wsX6_copy := by decide +kernel
  refine lv_aload_n hx hb dX6_copy_0 rfl (lv_at hl 0 rfl) ?_
  refine lv_aload_n hx hb dX6_copy_1 rfl (lv_at hl 1 rfl) ?_
  refine va_get (D := (dC, dI)) (ci := 5) (v := .int (S2 4 0)) (C := RX6) (T := TX6) (N := 5) hx hb hts hinX6 hown hK hP 5 rfl rfl 0 (by decide) hF24 (fun _ h9 => h9) rfl dX6_copy_2 ?_
  refine va_put (D := (dC, dI)) (ci := 5) (v := .int (S2 4 0)) (ty := .int) (C := RX6) (T := TX6) (N := 5) hx hb hts hinX6 tyX6 tyX6_ok nmX6 hown hK hP hD hS 0 rfl rfl 0 (by decide) hF24 (fun _ h9 => h9) rfl (by decide +kernel) rfl rfl (Nat.le_of_ble_eq_true rfl) dX6_copy_5 (fun H5 locs5 hP' hD' hS' => ?_)
  replace hS := hS'
  have hP' : va_P (dC, dI) vwCl (fl [(w_X6 ad (b1) cs (sU S1 4 (sU (S1 4) 0 (S2 4 0)))), (w_X6 ad (b2) cs S2)]) H5 := hP'
  have hD' : va_D A (fl [(w_X6 ad (b1) cs (sU S1 4 (sU (S1 4) 0 (S2 4 0)))), (w_X6 ad (b2) cs S2)]) := hD'
  replace hR := bn_e hR
  obtain ⟨S1_5, eS1_5, hR⟩ := hR
  replace hP : va_P (dC, dI) vwCl (fl [(w_X6 ad (b1) cs S1_5), (w_X6 ad (b2) cs S2)]) H5 := by rw [eS1_5]; exact hP'
  replace hD : va_D A (fl [(w_X6 ad (b1) cs S1_5), (w_X6 ad (b2) cs S2)]) := by rw [eS1_5]; exact hD'
  clear hP' hD' hS'
  refine lv_aload_n hx hb dX6_copy_8 rfl (lv_at hl 1 rfl) ?_
  refine va_get (D := (dC, dI)) (ci := 5) (v := .ref (ad (b2 + 1))) (C := RX6) (T := TX6) (N := 5) hx hb hts hinX6 hown hK hP 5 rfl rfl 1 (by decide) hF11 (fun _ h9 => h9) rfl dX6_copy_9 ?_
  refine lv_iconst (v := 0) hx hb dX6_copy_12 ic_0 ?_
  refine lv_aload_n hx hb dX6_copy_13 rfl (lv_at hl 0 rfl) ?_
  refine va_get (D := (dC, dI)) (ci := 5) (v := .ref (ad (b1 + 1))) (C := RX6) (T := TX6) (N := 5) hx hb hts hinX6 hown hK hP 0 rfl rfl 1 (by decide) hF11 (fun _ h9 => h9) rfl dX6_copy_14 ?_
  refine lv_iconst (v := 0) hx hb dX6_copy_17 ic_0 ?_
  refine lv_bipush (v := 6) hx hb dX6_copy_18 bp_6 ?_
  refine va_copyi hx hb (hml.trans hl.1.symm) hown (hts (.methodLink RX6 28 arraycopyName) (List.mem_of_getElem? (i := 3) rfl)) (hts (.native arraycopyName) (List.mem_of_getElem? (i := 4) rfl)) (hts (.static arraycopyName) (List.mem_of_getElem? (i := 5) rfl)) (hts (.initialized "java/lang/System") (List.mem_of_getElem? (i := 6) rfl)) hK hP hD hS 6 1 0 0 rfl rfl rfl rfl rfl (by decide) (by decide) (by decide) (by decide) (by decide) (fun _ _ => rfl) (Nat.le_of_ble_eq_true rfl) (Nat.le_of_ble_eq_true rfl) dX6_copy_20 (fun H20 locs20 hP' hD' hS' => ?_)
  replace hS := hS'
  have hP' : va_P (dC, dI) vwCl (fl [(w_X6 ad (b1) cs (sU S1_5 0 (va_cpy (S2 0) (S1_5 0) (0 : Int32).toNatClampNeg (0 : Int32).toNatClampNeg (6 : Int32).toNatClampNeg))), (w_X6 ad (b2) cs S2)]) H20 := hP'
  have hD' : va_D A (fl [(w_X6 ad (b1) cs (sU S1_5 0 (va_cpy (S2 0) (S1_5 0) (0 : Int32).toNatClampNeg (0 : Int32).toNatClampNeg (6 : Int32).toNatClampNeg))), (w_X6 ad (b2) cs S2)]) := hD'
  replace hR := bn_e hR
  obtain ⟨S1_20, eS1_20, hR⟩ := hR
  replace hP : va_P (dC, dI) vwCl (fl [(w_X6 ad (b1) cs S1_20), (w_X6 ad (b2) cs S2)]) H20 := by rw [eS1_20]; exact hP'
  replace hD : va_D A (fl [(w_X6 ad (b1) cs S1_20), (w_X6 ad (b2) cs S2)]) := by rw [eS1_20]; exact hD'
  clear hP' hD' hS'
  refine lv_aload_n hx hb dX6_copy_23 rfl (lv_at hl 1 rfl) ?_
  refine va_get (D := (dC, dI)) (ci := 5) (v := .ref (ad (b2 + 2))) (C := RX6) (T := TX6) (N := 5) hx hb hts hinX6 hown hK hP 5 rfl rfl 2 (by decide) hF15 (fun _ h9 => h9) rfl dX6_copy_24 ?_
  refine lv_iconst (v := 0) hx hb dX6_copy_27 ic_0 ?_
  refine lv_aload_n hx hb dX6_copy_28 rfl (lv_at hl 0 rfl) ?_
  refine va_get (D := (dC, dI)) (ci := 5) (v := .ref (ad (b1 + 2))) (C := RX6) (T := TX6) (N := 5) hx hb hts hinX6 hown hK hP 0 rfl rfl 2 (by decide) hF15 (fun _ h9 => h9) rfl dX6_copy_29 ?_
  refine lv_iconst (v := 0) hx hb dX6_copy_32 ic_0 ?_
  refine lv_bipush (v := 6) hx hb dX6_copy_33 bp_6 ?_
  refine va_copyi hx hb (hml.trans hl.1.symm) hown (hts (.methodLink RX6 28 arraycopyName) (List.mem_of_getElem? (i := 3) rfl)) (hts (.native arraycopyName) (List.mem_of_getElem? (i := 4) rfl)) (hts (.static arraycopyName) (List.mem_of_getElem? (i := 5) rfl)) (hts (.initialized "java/lang/System") (List.mem_of_getElem? (i := 6) rfl)) hK hP hD hS 7 2 0 0 rfl rfl rfl rfl rfl (by decide) (by decide) (by decide) (by decide) (by decide) (fun _ _ => rfl) (Nat.le_of_ble_eq_true rfl) (Nat.le_of_ble_eq_true rfl) dX6_copy_35 (fun H35 locs35 hP' hD' hS' => ?_)
  replace hS := hS'
  have hP' : va_P (dC, dI) vwCl (fl [(w_X6 ad (b1) cs (sU S1_20 1 (va_cpy (S2 1) (S1_20 1) (0 : Int32).toNatClampNeg (0 : Int32).toNatClampNeg (6 : Int32).toNatClampNeg))), (w_X6 ad (b2) cs S2)]) H35 := hP'
  have hD' : va_D A (fl [(w_X6 ad (b1) cs (sU S1_20 1 (va_cpy (S2 1) (S1_20 1) (0 : Int32).toNatClampNeg (0 : Int32).toNatClampNeg (6 : Int32).toNatClampNeg))), (w_X6 ad (b2) cs S2)]) := hD'
  replace hR := bn_e hR
  obtain ⟨S1_35, eS1_35, hR⟩ := hR
  replace hP : va_P (dC, dI) vwCl (fl [(w_X6 ad (b1) cs S1_35), (w_X6 ad (b2) cs S2)]) H35 := by rw [eS1_35]; exact hP'
  replace hD : va_D A (fl [(w_X6 ad (b1) cs S1_35), (w_X6 ad (b2) cs S2)]) := by rw [eS1_35]; exact hD'
  clear hP' hD' hS'
  refine lv_aload_n hx hb dX6_copy_38 rfl (lv_at hl 1 rfl) ?_
  refine va_get (D := (dC, dI)) (ci := 5) (v := .ref (ad (b2 + 3))) (C := RX6) (T := TX6) (N := 5) hx hb hts hinX6 hown hK hP 5 rfl rfl 3 (by decide) hF18 (fun _ h9 => h9) rfl dX6_copy_39 ?_
  refine lv_iconst (v := 0) hx hb dX6_copy_42 ic_0 ?_
  refine lv_aload_n hx hb dX6_copy_43 rfl (lv_at hl 0 rfl) ?_
  refine va_get (D := (dC, dI)) (ci := 5) (v := .ref (ad (b1 + 3))) (C := RX6) (T := TX6) (N := 5) hx hb hts hinX6 hown hK hP 0 rfl rfl 3 (by decide) hF18 (fun _ h9 => h9) rfl dX6_copy_44 ?_
  refine lv_iconst (v := 0) hx hb dX6_copy_47 ic_0 ?_
  refine lv_bipush (v := 6) hx hb dX6_copy_48 bp_6 ?_
  refine va_copyi hx hb (hml.trans hl.1.symm) hown (hts (.methodLink RX6 28 arraycopyName) (List.mem_of_getElem? (i := 3) rfl)) (hts (.native arraycopyName) (List.mem_of_getElem? (i := 4) rfl)) (hts (.static arraycopyName) (List.mem_of_getElem? (i := 5) rfl)) (hts (.initialized "java/lang/System") (List.mem_of_getElem? (i := 6) rfl)) hK hP hD hS 8 3 0 0 rfl rfl rfl rfl rfl (by decide) (by decide) (by decide) (by decide) (by decide) (fun _ _ => rfl) (Nat.le_of_ble_eq_true rfl) (Nat.le_of_ble_eq_true rfl) dX6_copy_50 (fun H50 locs50 hP' hD' hS' => ?_)
  replace hS := hS'
  have hP' : va_P (dC, dI) vwCl (fl [(w_X6 ad (b1) cs (sU S1_35 2 (va_cpy (S2 2) (S1_35 2) (0 : Int32).toNatClampNeg (0 : Int32).toNatClampNeg (6 : Int32).toNatClampNeg))), (w_X6 ad (b2) cs S2)]) H50 := hP'
  have hD' : va_D A (fl [(w_X6 ad (b1) cs (sU S1_35 2 (va_cpy (S2 2) (S1_35 2) (0 : Int32).toNatClampNeg (0 : Int32).toNatClampNeg (6 : Int32).toNatClampNeg))), (w_X6 ad (b2) cs S2)]) := hD'
  replace hR := bn_e hR
  obtain ⟨S1_50, eS1_50, hR⟩ := hR
  replace hP : va_P (dC, dI) vwCl (fl [(w_X6 ad (b1) cs S1_50), (w_X6 ad (b2) cs S2)]) H50 := by rw [eS1_50]; exact hP'
  replace hD : va_D A (fl [(w_X6 ad (b1) cs S1_50), (w_X6 ad (b2) cs S2)]) := by rw [eS1_50]; exact hD'
  clear hP' hD' hS'
  refine lv_aload_n hx hb dX6_copy_53 rfl (lv_at hl 1 rfl) ?_
  refine va_get (D := (dC, dI)) (ci := 5) (v := .ref (ad (b2 + 4))) (C := RX6) (T := TX6) (N := 5) hx hb hts hinX6 hown hK hP 5 rfl rfl 4 (by decide) hF21 (fun _ h9 => h9) rfl dX6_copy_54 ?_
  refine lv_iconst (v := 0) hx hb dX6_copy_57 ic_0 ?_
  refine lv_aload_n hx hb dX6_copy_58 rfl (lv_at hl 0 rfl) ?_
  refine va_get (D := (dC, dI)) (ci := 5) (v := .ref (ad (b1 + 4))) (C := RX6) (T := TX6) (N := 5) hx hb hts hinX6 hown hK hP 0 rfl rfl 4 (by decide) hF21 (fun _ h9 => h9) rfl dX6_copy_59 ?_
  refine lv_iconst (v := 0) hx hb dX6_copy_62 ic_0 ?_
  refine lv_bipush (v := 6) hx hb dX6_copy_63 bp_6 ?_
  refine va_copyi hx hb (hml.trans hl.1.symm) hown (hts (.methodLink RX6 28 arraycopyName) (List.mem_of_getElem? (i := 3) rfl)) (hts (.native arraycopyName) (List.mem_of_getElem? (i := 4) rfl)) (hts (.static arraycopyName) (List.mem_of_getElem? (i := 5) rfl)) (hts (.initialized "java/lang/System") (List.mem_of_getElem? (i := 6) rfl)) hK hP hD hS 9 4 0 0 rfl rfl rfl rfl rfl (by decide) (by decide) (by decide) (by decide) (by decide) (fun _ _ => rfl) (Nat.le_of_ble_eq_true rfl) (Nat.le_of_ble_eq_true rfl) dX6_copy_65 (fun H65 locs65 hP' hD' hS' => ?_)
  replace hS := hS'
  have hP' : va_P (dC, dI) vwCl (fl [(w_X6 ad (b1) cs (sU S1_50 3 (va_cpy (S2 3) (S1_50 3) (0 : Int32).toNatClampNeg (0 : Int32).toNatClampNeg (6 : Int32).toNatClampNeg))), (w_X6 ad (b2) cs S2)]) H65 := hP'
  have hD' : va_D A (fl [(w_X6 ad (b1) cs (sU S1_50 3 (va_cpy (S2 3) (S1_50 3) (0 : Int32).toNatClampNeg (0 : Int32).toNatClampNeg (6 : Int32).toNatClampNeg))), (w_X6 ad (b2) cs S2)]) := hD'
  replace hR := bn_e hR
  obtain ⟨S1_65, eS1_65, hR⟩ := hR
  replace hP : va_P (dC, dI) vwCl (fl [(w_X6 ad (b1) cs S1_65), (w_X6 ad (b2) cs S2)]) H65 := by rw [eS1_65]; exact hP'
  replace hD : va_D A (fl [(w_X6 ad (b1) cs S1_65), (w_X6 ad (b2) cs S2)]) := by rw [eS1_65]; exact hD'
  clear hP' hD' hS'
  replace hR := Option.some.inj hR
  have eu1 := hR
  replace hP : va_P (dC, dI) vwCl (fl [(w_X6 ad (b1) cs u1), (w_X6 ad (b2) cs S2)]) H65 := by rw [← eu1]; exact hP
  replace hD : va_D A (fl [(w_X6 ad (b1) cs u1), (w_X6 ad (b2) cs S2)]) := by rw [← eu1]; exact hD
  exact W.vret hx hb hr (fun t ht hW => ⟨⟨(), rfl, trivial, by rw [ht]; exact hP, va_K.moved hW.alike hK, hD⟩, hS.F ht⟩) hS.2.2 dX6_copy_68
set_option maxHeartbeats 8000000 in
set_option maxRecDepth 100000 in
theorem k_X4_copy (l : Launch) (dC : Nat → ClassId) (dI : Nat → Nat → Nat) (cs : Nat → ClassId) (ad : Nat → Nat) (b1 b2 : Nat) (sz : Nat) (S1 : T2) (S2 : T2) (u1 : T2) (hR : fX4_copy S1 S2 = some u1) : Met l yX4_copy wsX4_copy ({ frames := 1, cells := 0, slots := 0, locals := 30 } : Room) (va_Pc [.ref (ad b1), .ref (ad b2)] (pW dC dI (tyL cs) (fl [(w_X4 ad (b1) cs S1), (w_X4 ad (b2) cs S2)]) sz)) (QV dC dI (tyL cs) (va_A (fl [(w_X4 ad (b1) cs S1), (w_X4 ad (b2) cs S2)]) sz) (fl [(w_X4 ad (b1) cs u1), (w_X4 ad (b2) cs S2)])) 0 0 (va_A (fl [(w_X4 ad (b1) cs S1), (w_X4 ad (b2) cs S2)]) sz) := by
  refine mt_of (own := RX4) (cc := cX4_copy) (maxL := 2) (ret := none) (Qc := fun A => QV dC dI (tyL cs) A (fl [(w_X4 ad (b1) cs u1), (w_X4 ad (b2) cs S2)])) rfl (by decide) rfl (Nat.le_of_ble_eq_true rfl) (fun p e s m below meth c A ls hsz hx hb hr hts hown hlocks hml hA hK hP hD hS hl => ?_)
  subst hsz
  have hl : lv_has ls 2 [(0, .ref (ad b1)), (1, .ref (ad b2))] := hl
  have hF11 := hts (.fieldLink RX4 11 "DockedBikes$Riders" "owed" "[I") (List.mem_of_getElem? (i := 2) rfl)
  have hF15 := hts (.fieldLink RX4 15 "DockedBikes$Riders" "passEnd" "[I") (List.mem_of_getElem? (i := 7) rfl)
  have hF18 := hts (.fieldLink RX4 18 "DockedBikes$Riders" "passCoins" "[I") (List.mem_of_getElem? (i := 8) rfl)
  have hF21 := hts (.fieldLink RX4 21 "DockedBikes$Riders" "rides" "[I") (List.mem_of_getElem? (i := 9) rfl)
  have hF24 := hts (.fieldLink RX4 24 "DockedBikes$Riders" "bicycle" "[I") (List.mem_of_getElem? (i := 10) rfl)
  have hF27 := hts (.fieldLink RX4 27 "DockedBikes$Riders" "start" "[I") (List.mem_of_getElem? (i := 11) rfl)
  have hF30 := hts (.fieldLink RX4 30 "DockedBikes$Riders" "free" "[I") (List.mem_of_getElem? (i := 12) rfl)
  have hF33 := hts (.fieldLink RX4 33 "DockedBikes$Riders" "ground" "[I") (List.mem_of_getElem? (i := 13) rfl)
  have hF36 := hts (.fieldLink RX4 36 "DockedBikes$Riders" "told" "[I") (List.mem_of_getElem? (i := 14) rfl)
  have hF39 := hts (.fieldLink RX4 39 "DockedBikes$Riders" "size" "I") (List.mem_of_getElem? (i := 1) rfl)
  have hinX4 : ∀ w ∈ wsX40, w ∈ wsX4_copy := by decide +kernel
  refine lv_aload_n hx hb dX4_copy_0 rfl (lv_at hl 0 rfl) ?_
  refine lv_aload_n hx hb dX4_copy_1 rfl (lv_at hl 1 rfl) ?_
  refine va_get (D := (dC, dI)) (ci := 3) (v := .int (S2 9 0)) (C := RX4) (T := TX4) (N := 10) hx hb hts hinX4 hown hK hP 10 rfl rfl 0 (by decide) hF39 (fun _ h9 => h9) rfl dX4_copy_2 ?_
  refine va_put (D := (dC, dI)) (ci := 3) (v := .int (S2 9 0)) (ty := .int) (C := RX4) (T := TX4) (N := 10) hx hb hts hinX4 tyX4 tyX4_ok nmX4 hown hK hP hD hS 0 rfl rfl 0 (by decide) hF39 (fun _ h9 => h9) rfl (by decide +kernel) rfl rfl (Nat.le_of_ble_eq_true rfl) dX4_copy_5 (fun H5 locs5 hP' hD' hS' => ?_)
  replace hS := hS'
  have hP' : va_P (dC, dI) vwCl (fl [(w_X4 ad (b1) cs (sU S1 9 (sU (S1 9) 0 (S2 9 0)))), (w_X4 ad (b2) cs S2)]) H5 := hP'
  have hD' : va_D A (fl [(w_X4 ad (b1) cs (sU S1 9 (sU (S1 9) 0 (S2 9 0)))), (w_X4 ad (b2) cs S2)]) := hD'
  replace hR := bn_e hR
  obtain ⟨S1_5, eS1_5, hR⟩ := hR
  replace hP : va_P (dC, dI) vwCl (fl [(w_X4 ad (b1) cs S1_5), (w_X4 ad (b2) cs S2)]) H5 := by rw [eS1_5]; exact hP'
  replace hD : va_D A (fl [(w_X4 ad (b1) cs S1_5), (w_X4 ad (b2) cs S2)]) := by rw [eS1_5]; exact hD'
  clear hP' hD' hS'
  refine lv_aload_n hx hb dX4_copy_8 rfl (lv_at hl 1 rfl) ?_
  refine va_get (D := (dC, dI)) (ci := 3) (v := .ref (ad (b2 + 1))) (C := RX4) (T := TX4) (N := 10) hx hb hts hinX4 hown hK hP 10 rfl rfl 1 (by decide) hF11 (fun _ h9 => h9) rfl dX4_copy_9 ?_
  refine lv_iconst (v := 0) hx hb dX4_copy_12 ic_0 ?_
  refine lv_aload_n hx hb dX4_copy_13 rfl (lv_at hl 0 rfl) ?_
  refine va_get (D := (dC, dI)) (ci := 3) (v := .ref (ad (b1 + 1))) (C := RX4) (T := TX4) (N := 10) hx hb hts hinX4 hown hK hP 0 rfl rfl 1 (by decide) hF11 (fun _ h9 => h9) rfl dX4_copy_14 ?_
  refine lv_iconst (v := 0) hx hb dX4_copy_17 ic_0 ?_
  refine lv_bipush (v := 8) hx hb dX4_copy_18 bp_8 ?_
  refine va_copyi hx hb (hml.trans hl.1.symm) hown (hts (.methodLink RX4 43 arraycopyName) (List.mem_of_getElem? (i := 3) rfl)) (hts (.native arraycopyName) (List.mem_of_getElem? (i := 4) rfl)) (hts (.static arraycopyName) (List.mem_of_getElem? (i := 5) rfl)) (hts (.initialized "java/lang/System") (List.mem_of_getElem? (i := 6) rfl)) hK hP hD hS 11 1 0 0 rfl rfl rfl rfl rfl (by decide) (by decide) (by decide) (by decide) (by decide) (fun _ _ => rfl) (Nat.le_of_ble_eq_true rfl) (Nat.le_of_ble_eq_true rfl) dX4_copy_20 (fun H20 locs20 hP' hD' hS' => ?_)
  replace hS := hS'
  have hP' : va_P (dC, dI) vwCl (fl [(w_X4 ad (b1) cs (sU S1_5 0 (va_cpy (S2 0) (S1_5 0) (0 : Int32).toNatClampNeg (0 : Int32).toNatClampNeg (8 : Int32).toNatClampNeg))), (w_X4 ad (b2) cs S2)]) H20 := hP'
  have hD' : va_D A (fl [(w_X4 ad (b1) cs (sU S1_5 0 (va_cpy (S2 0) (S1_5 0) (0 : Int32).toNatClampNeg (0 : Int32).toNatClampNeg (8 : Int32).toNatClampNeg))), (w_X4 ad (b2) cs S2)]) := hD'
  replace hR := bn_e hR
  obtain ⟨S1_20, eS1_20, hR⟩ := hR
  replace hP : va_P (dC, dI) vwCl (fl [(w_X4 ad (b1) cs S1_20), (w_X4 ad (b2) cs S2)]) H20 := by rw [eS1_20]; exact hP'
  replace hD : va_D A (fl [(w_X4 ad (b1) cs S1_20), (w_X4 ad (b2) cs S2)]) := by rw [eS1_20]; exact hD'
  clear hP' hD' hS'
  refine lv_aload_n hx hb dX4_copy_23 rfl (lv_at hl 1 rfl) ?_
  refine va_get (D := (dC, dI)) (ci := 3) (v := .ref (ad (b2 + 2))) (C := RX4) (T := TX4) (N := 10) hx hb hts hinX4 hown hK hP 10 rfl rfl 2 (by decide) hF15 (fun _ h9 => h9) rfl dX4_copy_24 ?_
  refine lv_iconst (v := 0) hx hb dX4_copy_27 ic_0 ?_
  refine lv_aload_n hx hb dX4_copy_28 rfl (lv_at hl 0 rfl) ?_
  refine va_get (D := (dC, dI)) (ci := 3) (v := .ref (ad (b1 + 2))) (C := RX4) (T := TX4) (N := 10) hx hb hts hinX4 hown hK hP 0 rfl rfl 2 (by decide) hF15 (fun _ h9 => h9) rfl dX4_copy_29 ?_
  refine lv_iconst (v := 0) hx hb dX4_copy_32 ic_0 ?_
  refine lv_bipush (v := 8) hx hb dX4_copy_33 bp_8 ?_
  refine va_copyi hx hb (hml.trans hl.1.symm) hown (hts (.methodLink RX4 43 arraycopyName) (List.mem_of_getElem? (i := 3) rfl)) (hts (.native arraycopyName) (List.mem_of_getElem? (i := 4) rfl)) (hts (.static arraycopyName) (List.mem_of_getElem? (i := 5) rfl)) (hts (.initialized "java/lang/System") (List.mem_of_getElem? (i := 6) rfl)) hK hP hD hS 12 2 0 0 rfl rfl rfl rfl rfl (by decide) (by decide) (by decide) (by decide) (by decide) (fun _ _ => rfl) (Nat.le_of_ble_eq_true rfl) (Nat.le_of_ble_eq_true rfl) dX4_copy_35 (fun H35 locs35 hP' hD' hS' => ?_)
  replace hS := hS'
  have hP' : va_P (dC, dI) vwCl (fl [(w_X4 ad (b1) cs (sU S1_20 1 (va_cpy (S2 1) (S1_20 1) (0 : Int32).toNatClampNeg (0 : Int32).toNatClampNeg (8 : Int32).toNatClampNeg))), (w_X4 ad (b2) cs S2)]) H35 := hP'
  have hD' : va_D A (fl [(w_X4 ad (b1) cs (sU S1_20 1 (va_cpy (S2 1) (S1_20 1) (0 : Int32).toNatClampNeg (0 : Int32).toNatClampNeg (8 : Int32).toNatClampNeg))), (w_X4 ad (b2) cs S2)]) := hD'
  replace hR := bn_e hR
  obtain ⟨S1_35, eS1_35, hR⟩ := hR
  replace hP : va_P (dC, dI) vwCl (fl [(w_X4 ad (b1) cs S1_35), (w_X4 ad (b2) cs S2)]) H35 := by rw [eS1_35]; exact hP'
  replace hD : va_D A (fl [(w_X4 ad (b1) cs S1_35), (w_X4 ad (b2) cs S2)]) := by rw [eS1_35]; exact hD'
  clear hP' hD' hS'
  refine lv_aload_n hx hb dX4_copy_38 rfl (lv_at hl 1 rfl) ?_
  refine va_get (D := (dC, dI)) (ci := 3) (v := .ref (ad (b2 + 3))) (C := RX4) (T := TX4) (N := 10) hx hb hts hinX4 hown hK hP 10 rfl rfl 3 (by decide) hF18 (fun _ h9 => h9) rfl dX4_copy_39 ?_
  refine lv_iconst (v := 0) hx hb dX4_copy_42 ic_0 ?_
  refine lv_aload_n hx hb dX4_copy_43 rfl (lv_at hl 0 rfl) ?_
  refine va_get (D := (dC, dI)) (ci := 3) (v := .ref (ad (b1 + 3))) (C := RX4) (T := TX4) (N := 10) hx hb hts hinX4 hown hK hP 0 rfl rfl 3 (by decide) hF18 (fun _ h9 => h9) rfl dX4_copy_44 ?_
  refine lv_iconst (v := 0) hx hb dX4_copy_47 ic_0 ?_
  refine lv_bipush (v := 8) hx hb dX4_copy_48 bp_8 ?_
  refine va_copyi hx hb (hml.trans hl.1.symm) hown (hts (.methodLink RX4 43 arraycopyName) (List.mem_of_getElem? (i := 3) rfl)) (hts (.native arraycopyName) (List.mem_of_getElem? (i := 4) rfl)) (hts (.static arraycopyName) (List.mem_of_getElem? (i := 5) rfl)) (hts (.initialized "java/lang/System") (List.mem_of_getElem? (i := 6) rfl)) hK hP hD hS 13 3 0 0 rfl rfl rfl rfl rfl (by decide) (by decide) (by decide) (by decide) (by decide) (fun _ _ => rfl) (Nat.le_of_ble_eq_true rfl) (Nat.le_of_ble_eq_true rfl) dX4_copy_50 (fun H50 locs50 hP' hD' hS' => ?_)
  replace hS := hS'
  have hP' : va_P (dC, dI) vwCl (fl [(w_X4 ad (b1) cs (sU S1_35 2 (va_cpy (S2 2) (S1_35 2) (0 : Int32).toNatClampNeg (0 : Int32).toNatClampNeg (8 : Int32).toNatClampNeg))), (w_X4 ad (b2) cs S2)]) H50 := hP'
  have hD' : va_D A (fl [(w_X4 ad (b1) cs (sU S1_35 2 (va_cpy (S2 2) (S1_35 2) (0 : Int32).toNatClampNeg (0 : Int32).toNatClampNeg (8 : Int32).toNatClampNeg))), (w_X4 ad (b2) cs S2)]) := hD'
  replace hR := bn_e hR
  obtain ⟨S1_50, eS1_50, hR⟩ := hR
  replace hP : va_P (dC, dI) vwCl (fl [(w_X4 ad (b1) cs S1_50), (w_X4 ad (b2) cs S2)]) H50 := by rw [eS1_50]; exact hP'
  replace hD : va_D A (fl [(w_X4 ad (b1) cs S1_50), (w_X4 ad (b2) cs S2)]) := by rw [eS1_50]; exact hD'
  clear hP' hD' hS'
  refine lv_aload_n hx hb dX4_copy_53 rfl (lv_at hl 1 rfl) ?_
  refine va_get (D := (dC, dI)) (ci := 3) (v := .ref (ad (b2 + 4))) (C := RX4) (T := TX4) (N := 10) hx hb hts hinX4 hown hK hP 10 rfl rfl 4 (by decide) hF21 (fun _ h9 => h9) rfl dX4_copy_54 ?_
  refine lv_iconst (v := 0) hx hb dX4_copy_57 ic_0 ?_
  refine lv_aload_n hx hb dX4_copy_58 rfl (lv_at hl 0 rfl) ?_
  refine va_get (D := (dC, dI)) (ci := 3) (v := .ref (ad (b1 + 4))) (C := RX4) (T := TX4) (N := 10) hx hb hts hinX4 hown hK hP 0 rfl rfl 4 (by decide) hF21 (fun _ h9 => h9) rfl dX4_copy_59 ?_
  refine lv_iconst (v := 0) hx hb dX4_copy_62 ic_0 ?_
  refine lv_bipush (v := 8) hx hb dX4_copy_63 bp_8 ?_
  refine va_copyi hx hb (hml.trans hl.1.symm) hown (hts (.methodLink RX4 43 arraycopyName) (List.mem_of_getElem? (i := 3) rfl)) (hts (.native arraycopyName) (List.mem_of_getElem? (i := 4) rfl)) (hts (.static arraycopyName) (List.mem_of_getElem? (i := 5) rfl)) (hts (.initialized "java/lang/System") (List.mem_of_getElem? (i := 6) rfl)) hK hP hD hS 14 4 0 0 rfl rfl rfl rfl rfl (by decide) (by decide) (by decide) (by decide) (by decide) (fun _ _ => rfl) (Nat.le_of_ble_eq_true rfl) (Nat.le_of_ble_eq_true rfl) dX4_copy_65 (fun H65 locs65 hP' hD' hS' => ?_)
  replace hS := hS'
  have hP' : va_P (dC, dI) vwCl (fl [(w_X4 ad (b1) cs (sU S1_50 3 (va_cpy (S2 3) (S1_50 3) (0 : Int32).toNatClampNeg (0 : Int32).toNatClampNeg (8 : Int32).toNatClampNeg))), (w_X4 ad (b2) cs S2)]) H65 := hP'
  have hD' : va_D A (fl [(w_X4 ad (b1) cs (sU S1_50 3 (va_cpy (S2 3) (S1_50 3) (0 : Int32).toNatClampNeg (0 : Int32).toNatClampNeg (8 : Int32).toNatClampNeg))), (w_X4 ad (b2) cs S2)]) := hD'
  replace hR := bn_e hR
  obtain ⟨S1_65, eS1_65, hR⟩ := hR
  replace hP : va_P (dC, dI) vwCl (fl [(w_X4 ad (b1) cs S1_65), (w_X4 ad (b2) cs S2)]) H65 := by rw [eS1_65]; exact hP'
  replace hD : va_D A (fl [(w_X4 ad (b1) cs S1_65), (w_X4 ad (b2) cs S2)]) := by rw [eS1_65]; exact hD'
  clear hP' hD' hS'
  refine lv_aload_n hx hb dX4_copy_68 rfl (lv_at hl 1 rfl) ?_
  refine va_get (D := (dC, dI)) (ci := 3) (v := .ref (ad (b2 + 5))) (C := RX4) (T := TX4) (N := 10) hx hb hts hinX4 hown hK hP 10 rfl rfl 5 (by decide) hF24 (fun _ h9 => h9) rfl dX4_copy_69 ?_
  refine lv_iconst (v := 0) hx hb dX4_copy_72 ic_0 ?_
  refine lv_aload_n hx hb dX4_copy_73 rfl (lv_at hl 0 rfl) ?_
  refine va_get (D := (dC, dI)) (ci := 3) (v := .ref (ad (b1 + 5))) (C := RX4) (T := TX4) (N := 10) hx hb hts hinX4 hown hK hP 0 rfl rfl 5 (by decide) hF24 (fun _ h9 => h9) rfl dX4_copy_74 ?_
  refine lv_iconst (v := 0) hx hb dX4_copy_77 ic_0 ?_
  refine lv_bipush (v := 8) hx hb dX4_copy_78 bp_8 ?_
  refine va_copyi hx hb (hml.trans hl.1.symm) hown (hts (.methodLink RX4 43 arraycopyName) (List.mem_of_getElem? (i := 3) rfl)) (hts (.native arraycopyName) (List.mem_of_getElem? (i := 4) rfl)) (hts (.static arraycopyName) (List.mem_of_getElem? (i := 5) rfl)) (hts (.initialized "java/lang/System") (List.mem_of_getElem? (i := 6) rfl)) hK hP hD hS 15 5 0 0 rfl rfl rfl rfl rfl (by decide) (by decide) (by decide) (by decide) (by decide) (fun _ _ => rfl) (Nat.le_of_ble_eq_true rfl) (Nat.le_of_ble_eq_true rfl) dX4_copy_80 (fun H80 locs80 hP' hD' hS' => ?_)
  replace hS := hS'
  have hP' : va_P (dC, dI) vwCl (fl [(w_X4 ad (b1) cs (sU S1_65 4 (va_cpy (S2 4) (S1_65 4) (0 : Int32).toNatClampNeg (0 : Int32).toNatClampNeg (8 : Int32).toNatClampNeg))), (w_X4 ad (b2) cs S2)]) H80 := hP'
  have hD' : va_D A (fl [(w_X4 ad (b1) cs (sU S1_65 4 (va_cpy (S2 4) (S1_65 4) (0 : Int32).toNatClampNeg (0 : Int32).toNatClampNeg (8 : Int32).toNatClampNeg))), (w_X4 ad (b2) cs S2)]) := hD'
  replace hR := bn_e hR
  obtain ⟨S1_80, eS1_80, hR⟩ := hR
  replace hP : va_P (dC, dI) vwCl (fl [(w_X4 ad (b1) cs S1_80), (w_X4 ad (b2) cs S2)]) H80 := by rw [eS1_80]; exact hP'
  replace hD : va_D A (fl [(w_X4 ad (b1) cs S1_80), (w_X4 ad (b2) cs S2)]) := by rw [eS1_80]; exact hD'
  clear hP' hD' hS'
  refine lv_aload_n hx hb dX4_copy_83 rfl (lv_at hl 1 rfl) ?_
  refine va_get (D := (dC, dI)) (ci := 3) (v := .ref (ad (b2 + 6))) (C := RX4) (T := TX4) (N := 10) hx hb hts hinX4 hown hK hP 10 rfl rfl 6 (by decide) hF27 (fun _ h9 => h9) rfl dX4_copy_84 ?_
  refine lv_iconst (v := 0) hx hb dX4_copy_87 ic_0 ?_
  refine lv_aload_n hx hb dX4_copy_88 rfl (lv_at hl 0 rfl) ?_
  refine va_get (D := (dC, dI)) (ci := 3) (v := .ref (ad (b1 + 6))) (C := RX4) (T := TX4) (N := 10) hx hb hts hinX4 hown hK hP 0 rfl rfl 6 (by decide) hF27 (fun _ h9 => h9) rfl dX4_copy_89 ?_
  refine lv_iconst (v := 0) hx hb dX4_copy_92 ic_0 ?_
  refine lv_bipush (v := 8) hx hb dX4_copy_93 bp_8 ?_
  refine va_copyi hx hb (hml.trans hl.1.symm) hown (hts (.methodLink RX4 43 arraycopyName) (List.mem_of_getElem? (i := 3) rfl)) (hts (.native arraycopyName) (List.mem_of_getElem? (i := 4) rfl)) (hts (.static arraycopyName) (List.mem_of_getElem? (i := 5) rfl)) (hts (.initialized "java/lang/System") (List.mem_of_getElem? (i := 6) rfl)) hK hP hD hS 16 6 0 0 rfl rfl rfl rfl rfl (by decide) (by decide) (by decide) (by decide) (by decide) (fun _ _ => rfl) (Nat.le_of_ble_eq_true rfl) (Nat.le_of_ble_eq_true rfl) dX4_copy_95 (fun H95 locs95 hP' hD' hS' => ?_)
  replace hS := hS'
  have hP' : va_P (dC, dI) vwCl (fl [(w_X4 ad (b1) cs (sU S1_80 5 (va_cpy (S2 5) (S1_80 5) (0 : Int32).toNatClampNeg (0 : Int32).toNatClampNeg (8 : Int32).toNatClampNeg))), (w_X4 ad (b2) cs S2)]) H95 := hP'
  have hD' : va_D A (fl [(w_X4 ad (b1) cs (sU S1_80 5 (va_cpy (S2 5) (S1_80 5) (0 : Int32).toNatClampNeg (0 : Int32).toNatClampNeg (8 : Int32).toNatClampNeg))), (w_X4 ad (b2) cs S2)]) := hD'
  replace hR := bn_e hR
  obtain ⟨S1_95, eS1_95, hR⟩ := hR
  replace hP : va_P (dC, dI) vwCl (fl [(w_X4 ad (b1) cs S1_95), (w_X4 ad (b2) cs S2)]) H95 := by rw [eS1_95]; exact hP'
  replace hD : va_D A (fl [(w_X4 ad (b1) cs S1_95), (w_X4 ad (b2) cs S2)]) := by rw [eS1_95]; exact hD'
  clear hP' hD' hS'
  refine lv_aload_n hx hb dX4_copy_98 rfl (lv_at hl 1 rfl) ?_
  refine va_get (D := (dC, dI)) (ci := 3) (v := .ref (ad (b2 + 7))) (C := RX4) (T := TX4) (N := 10) hx hb hts hinX4 hown hK hP 10 rfl rfl 7 (by decide) hF30 (fun _ h9 => h9) rfl dX4_copy_99 ?_
  refine lv_iconst (v := 0) hx hb dX4_copy_102 ic_0 ?_
  refine lv_aload_n hx hb dX4_copy_103 rfl (lv_at hl 0 rfl) ?_
  refine va_get (D := (dC, dI)) (ci := 3) (v := .ref (ad (b1 + 7))) (C := RX4) (T := TX4) (N := 10) hx hb hts hinX4 hown hK hP 0 rfl rfl 7 (by decide) hF30 (fun _ h9 => h9) rfl dX4_copy_104 ?_
  refine lv_iconst (v := 0) hx hb dX4_copy_107 ic_0 ?_
  refine lv_bipush (v := 8) hx hb dX4_copy_108 bp_8 ?_
  refine va_copyi hx hb (hml.trans hl.1.symm) hown (hts (.methodLink RX4 43 arraycopyName) (List.mem_of_getElem? (i := 3) rfl)) (hts (.native arraycopyName) (List.mem_of_getElem? (i := 4) rfl)) (hts (.static arraycopyName) (List.mem_of_getElem? (i := 5) rfl)) (hts (.initialized "java/lang/System") (List.mem_of_getElem? (i := 6) rfl)) hK hP hD hS 17 7 0 0 rfl rfl rfl rfl rfl (by decide) (by decide) (by decide) (by decide) (by decide) (fun _ _ => rfl) (Nat.le_of_ble_eq_true rfl) (Nat.le_of_ble_eq_true rfl) dX4_copy_110 (fun H110 locs110 hP' hD' hS' => ?_)
  replace hS := hS'
  have hP' : va_P (dC, dI) vwCl (fl [(w_X4 ad (b1) cs (sU S1_95 6 (va_cpy (S2 6) (S1_95 6) (0 : Int32).toNatClampNeg (0 : Int32).toNatClampNeg (8 : Int32).toNatClampNeg))), (w_X4 ad (b2) cs S2)]) H110 := hP'
  have hD' : va_D A (fl [(w_X4 ad (b1) cs (sU S1_95 6 (va_cpy (S2 6) (S1_95 6) (0 : Int32).toNatClampNeg (0 : Int32).toNatClampNeg (8 : Int32).toNatClampNeg))), (w_X4 ad (b2) cs S2)]) := hD'
  replace hR := bn_e hR
  obtain ⟨S1_110, eS1_110, hR⟩ := hR
  replace hP : va_P (dC, dI) vwCl (fl [(w_X4 ad (b1) cs S1_110), (w_X4 ad (b2) cs S2)]) H110 := by rw [eS1_110]; exact hP'
  replace hD : va_D A (fl [(w_X4 ad (b1) cs S1_110), (w_X4 ad (b2) cs S2)]) := by rw [eS1_110]; exact hD'
  clear hP' hD' hS'
  refine lv_aload_n hx hb dX4_copy_113 rfl (lv_at hl 1 rfl) ?_
  refine va_get (D := (dC, dI)) (ci := 3) (v := .ref (ad (b2 + 8))) (C := RX4) (T := TX4) (N := 10) hx hb hts hinX4 hown hK hP 10 rfl rfl 8 (by decide) hF33 (fun _ h9 => h9) rfl dX4_copy_114 ?_
  refine lv_iconst (v := 0) hx hb dX4_copy_117 ic_0 ?_
  refine lv_aload_n hx hb dX4_copy_118 rfl (lv_at hl 0 rfl) ?_
  refine va_get (D := (dC, dI)) (ci := 3) (v := .ref (ad (b1 + 8))) (C := RX4) (T := TX4) (N := 10) hx hb hts hinX4 hown hK hP 0 rfl rfl 8 (by decide) hF33 (fun _ h9 => h9) rfl dX4_copy_119 ?_
  refine lv_iconst (v := 0) hx hb dX4_copy_122 ic_0 ?_
  refine lv_bipush (v := 8) hx hb dX4_copy_123 bp_8 ?_
  refine va_copyi hx hb (hml.trans hl.1.symm) hown (hts (.methodLink RX4 43 arraycopyName) (List.mem_of_getElem? (i := 3) rfl)) (hts (.native arraycopyName) (List.mem_of_getElem? (i := 4) rfl)) (hts (.static arraycopyName) (List.mem_of_getElem? (i := 5) rfl)) (hts (.initialized "java/lang/System") (List.mem_of_getElem? (i := 6) rfl)) hK hP hD hS 18 8 0 0 rfl rfl rfl rfl rfl (by decide) (by decide) (by decide) (by decide) (by decide) (fun _ _ => rfl) (Nat.le_of_ble_eq_true rfl) (Nat.le_of_ble_eq_true rfl) dX4_copy_125 (fun H125 locs125 hP' hD' hS' => ?_)
  replace hS := hS'
  have hP' : va_P (dC, dI) vwCl (fl [(w_X4 ad (b1) cs (sU S1_110 7 (va_cpy (S2 7) (S1_110 7) (0 : Int32).toNatClampNeg (0 : Int32).toNatClampNeg (8 : Int32).toNatClampNeg))), (w_X4 ad (b2) cs S2)]) H125 := hP'
  have hD' : va_D A (fl [(w_X4 ad (b1) cs (sU S1_110 7 (va_cpy (S2 7) (S1_110 7) (0 : Int32).toNatClampNeg (0 : Int32).toNatClampNeg (8 : Int32).toNatClampNeg))), (w_X4 ad (b2) cs S2)]) := hD'
  replace hR := bn_e hR
  obtain ⟨S1_125, eS1_125, hR⟩ := hR
  replace hP : va_P (dC, dI) vwCl (fl [(w_X4 ad (b1) cs S1_125), (w_X4 ad (b2) cs S2)]) H125 := by rw [eS1_125]; exact hP'
  replace hD : va_D A (fl [(w_X4 ad (b1) cs S1_125), (w_X4 ad (b2) cs S2)]) := by rw [eS1_125]; exact hD'
  clear hP' hD' hS'
  refine lv_aload_n hx hb dX4_copy_128 rfl (lv_at hl 1 rfl) ?_
  refine va_get (D := (dC, dI)) (ci := 3) (v := .ref (ad (b2 + 9))) (C := RX4) (T := TX4) (N := 10) hx hb hts hinX4 hown hK hP 10 rfl rfl 9 (by decide) hF36 (fun _ h9 => h9) rfl dX4_copy_129 ?_
  refine lv_iconst (v := 0) hx hb dX4_copy_132 ic_0 ?_
  refine lv_aload_n hx hb dX4_copy_133 rfl (lv_at hl 0 rfl) ?_
  refine va_get (D := (dC, dI)) (ci := 3) (v := .ref (ad (b1 + 9))) (C := RX4) (T := TX4) (N := 10) hx hb hts hinX4 hown hK hP 0 rfl rfl 9 (by decide) hF36 (fun _ h9 => h9) rfl dX4_copy_134 ?_
  refine lv_iconst (v := 0) hx hb dX4_copy_137 ic_0 ?_
  refine lv_bipush (v := 8) hx hb dX4_copy_138 bp_8 ?_
  refine va_copyi hx hb (hml.trans hl.1.symm) hown (hts (.methodLink RX4 43 arraycopyName) (List.mem_of_getElem? (i := 3) rfl)) (hts (.native arraycopyName) (List.mem_of_getElem? (i := 4) rfl)) (hts (.static arraycopyName) (List.mem_of_getElem? (i := 5) rfl)) (hts (.initialized "java/lang/System") (List.mem_of_getElem? (i := 6) rfl)) hK hP hD hS 19 9 0 0 rfl rfl rfl rfl rfl (by decide) (by decide) (by decide) (by decide) (by decide) (fun _ _ => rfl) (Nat.le_of_ble_eq_true rfl) (Nat.le_of_ble_eq_true rfl) dX4_copy_140 (fun H140 locs140 hP' hD' hS' => ?_)
  replace hS := hS'
  have hP' : va_P (dC, dI) vwCl (fl [(w_X4 ad (b1) cs (sU S1_125 8 (va_cpy (S2 8) (S1_125 8) (0 : Int32).toNatClampNeg (0 : Int32).toNatClampNeg (8 : Int32).toNatClampNeg))), (w_X4 ad (b2) cs S2)]) H140 := hP'
  have hD' : va_D A (fl [(w_X4 ad (b1) cs (sU S1_125 8 (va_cpy (S2 8) (S1_125 8) (0 : Int32).toNatClampNeg (0 : Int32).toNatClampNeg (8 : Int32).toNatClampNeg))), (w_X4 ad (b2) cs S2)]) := hD'
  replace hR := bn_e hR
  obtain ⟨S1_140, eS1_140, hR⟩ := hR
  replace hP : va_P (dC, dI) vwCl (fl [(w_X4 ad (b1) cs S1_140), (w_X4 ad (b2) cs S2)]) H140 := by rw [eS1_140]; exact hP'
  replace hD : va_D A (fl [(w_X4 ad (b1) cs S1_140), (w_X4 ad (b2) cs S2)]) := by rw [eS1_140]; exact hD'
  clear hP' hD' hS'
  replace hR := Option.some.inj hR
  have eu1 := hR
  replace hP : va_P (dC, dI) vwCl (fl [(w_X4 ad (b1) cs u1), (w_X4 ad (b2) cs S2)]) H140 := by rw [← eu1]; exact hP
  replace hD : va_D A (fl [(w_X4 ad (b1) cs u1), (w_X4 ad (b2) cs S2)]) := by rw [← eu1]; exact hD
  exact W.vret hx hb hr (fun t ht hW => ⟨⟨(), rfl, trivial, by rw [ht]; exact hP, va_K.moved hW.alike hK, hD⟩, hS.F ht⟩) hS.2.2 dX4_copy_143
set_option maxHeartbeats 8000000 in
set_option maxRecDepth 100000 in
theorem k_X8_copy (l : Launch) (dC : Nat → ClassId) (dI : Nat → Nat → Nat) (cs : Nat → ClassId) (ad : Nat → Nat) (b1 b2 : Nat) (sz : Nat) (S1 : T2) (S2 : T2) (u1 : T2) (hR : fX8_copy S1 S2 = some u1) : Met l yX8_copy wsX8_copy ({ frames := 1, cells := 0, slots := 0, locals := 30 } : Room) (va_Pc [.ref (ad b1), .ref (ad b2)] (pW dC dI (tyL cs) (fl [(w_X8 ad (b1) cs S1), (w_X8 ad (b2) cs S2)]) sz)) (QV dC dI (tyL cs) (va_A (fl [(w_X8 ad (b1) cs S1), (w_X8 ad (b2) cs S2)]) sz) (fl [(w_X8 ad (b1) cs u1), (w_X8 ad (b2) cs S2)])) 0 0 (va_A (fl [(w_X8 ad (b1) cs S1), (w_X8 ad (b2) cs S2)]) sz) := by
  refine mt_of (own := RX8) (cc := cX8_copy) (maxL := 2) (ret := none) (Qc := fun A => QV dC dI (tyL cs) A (fl [(w_X8 ad (b1) cs u1), (w_X8 ad (b2) cs S2)])) rfl (by decide) rfl (Nat.le_of_ble_eq_true rfl) (fun p e s m below meth c A ls hsz hx hb hr hts hown hlocks hml hA hK hP hD hS hl => ?_)
  subst hsz
  have hl : lv_has ls 2 [(0, .ref (ad b1)), (1, .ref (ad b2))] := hl
  have hF11 := hts (.fieldLink RX8 11 "DockedBikes$Vans" "station" "[I") (List.mem_of_getElem? (i := 2) rfl)
  have hF15 := hts (.fieldLink RX8 15 "DockedBikes$Vans" "room" "[I") (List.mem_of_getElem? (i := 7) rfl)
  have hF18 := hts (.fieldLink RX8 18 "DockedBikes$Vans" "arrival" "[I") (List.mem_of_getElem? (i := 8) rfl)
  have hF21 := hts (.fieldLink RX8 21 "DockedBikes$Vans" "size" "I") (List.mem_of_getElem? (i := 1) rfl)
  have hinX8 : ∀ w ∈ wsX80, w ∈ wsX8_copy := by decide +kernel
  refine lv_aload_n hx hb dX8_copy_0 rfl (lv_at hl 0 rfl) ?_
  refine lv_aload_n hx hb dX8_copy_1 rfl (lv_at hl 1 rfl) ?_
  refine va_get (D := (dC, dI)) (ci := 7) (v := .int (S2 3 0)) (C := RX8) (T := TX8) (N := 4) hx hb hts hinX8 hown hK hP 4 rfl rfl 0 (by decide) hF21 (fun _ h9 => h9) rfl dX8_copy_2 ?_
  refine va_put (D := (dC, dI)) (ci := 7) (v := .int (S2 3 0)) (ty := .int) (C := RX8) (T := TX8) (N := 4) hx hb hts hinX8 tyX8 tyX8_ok nmX8 hown hK hP hD hS 0 rfl rfl 0 (by decide) hF21 (fun _ h9 => h9) rfl (by decide +kernel) rfl rfl (Nat.le_of_ble_eq_true rfl) dX8_copy_5 (fun H5 locs5 hP' hD' hS' => ?_)
  replace hS := hS'
  have hP' : va_P (dC, dI) vwCl (fl [(w_X8 ad (b1) cs (sU S1 3 (sU (S1 3) 0 (S2 3 0)))), (w_X8 ad (b2) cs S2)]) H5 := hP'
  have hD' : va_D A (fl [(w_X8 ad (b1) cs (sU S1 3 (sU (S1 3) 0 (S2 3 0)))), (w_X8 ad (b2) cs S2)]) := hD'
  replace hR := bn_e hR
  obtain ⟨S1_5, eS1_5, hR⟩ := hR
  replace hP : va_P (dC, dI) vwCl (fl [(w_X8 ad (b1) cs S1_5), (w_X8 ad (b2) cs S2)]) H5 := by rw [eS1_5]; exact hP'
  replace hD : va_D A (fl [(w_X8 ad (b1) cs S1_5), (w_X8 ad (b2) cs S2)]) := by rw [eS1_5]; exact hD'
  clear hP' hD' hS'
  refine lv_aload_n hx hb dX8_copy_8 rfl (lv_at hl 1 rfl) ?_
  refine va_get (D := (dC, dI)) (ci := 7) (v := .ref (ad (b2 + 1))) (C := RX8) (T := TX8) (N := 4) hx hb hts hinX8 hown hK hP 4 rfl rfl 1 (by decide) hF11 (fun _ h9 => h9) rfl dX8_copy_9 ?_
  refine lv_iconst (v := 0) hx hb dX8_copy_12 ic_0 ?_
  refine lv_aload_n hx hb dX8_copy_13 rfl (lv_at hl 0 rfl) ?_
  refine va_get (D := (dC, dI)) (ci := 7) (v := .ref (ad (b1 + 1))) (C := RX8) (T := TX8) (N := 4) hx hb hts hinX8 hown hK hP 0 rfl rfl 1 (by decide) hF11 (fun _ h9 => h9) rfl dX8_copy_14 ?_
  refine lv_iconst (v := 0) hx hb dX8_copy_17 ic_0 ?_
  refine lv_iconst (v := 2) hx hb dX8_copy_18 ic_2 ?_
  refine va_copyi hx hb (hml.trans hl.1.symm) hown (hts (.methodLink RX8 25 arraycopyName) (List.mem_of_getElem? (i := 3) rfl)) (hts (.native arraycopyName) (List.mem_of_getElem? (i := 4) rfl)) (hts (.static arraycopyName) (List.mem_of_getElem? (i := 5) rfl)) (hts (.initialized "java/lang/System") (List.mem_of_getElem? (i := 6) rfl)) hK hP hD hS 5 1 0 0 rfl rfl rfl rfl rfl (by decide) (by decide) (by decide) (by decide) (by decide) (fun _ _ => rfl) (Nat.le_of_ble_eq_true rfl) (Nat.le_of_ble_eq_true rfl) dX8_copy_19 (fun H19 locs19 hP' hD' hS' => ?_)
  replace hS := hS'
  have hP' : va_P (dC, dI) vwCl (fl [(w_X8 ad (b1) cs (sU S1_5 0 (va_cpy (S2 0) (S1_5 0) (0 : Int32).toNatClampNeg (0 : Int32).toNatClampNeg (2 : Int32).toNatClampNeg))), (w_X8 ad (b2) cs S2)]) H19 := hP'
  have hD' : va_D A (fl [(w_X8 ad (b1) cs (sU S1_5 0 (va_cpy (S2 0) (S1_5 0) (0 : Int32).toNatClampNeg (0 : Int32).toNatClampNeg (2 : Int32).toNatClampNeg))), (w_X8 ad (b2) cs S2)]) := hD'
  replace hR := bn_e hR
  obtain ⟨S1_19, eS1_19, hR⟩ := hR
  replace hP : va_P (dC, dI) vwCl (fl [(w_X8 ad (b1) cs S1_19), (w_X8 ad (b2) cs S2)]) H19 := by rw [eS1_19]; exact hP'
  replace hD : va_D A (fl [(w_X8 ad (b1) cs S1_19), (w_X8 ad (b2) cs S2)]) := by rw [eS1_19]; exact hD'
  clear hP' hD' hS'
  refine lv_aload_n hx hb dX8_copy_22 rfl (lv_at hl 1 rfl) ?_
  refine va_get (D := (dC, dI)) (ci := 7) (v := .ref (ad (b2 + 2))) (C := RX8) (T := TX8) (N := 4) hx hb hts hinX8 hown hK hP 4 rfl rfl 2 (by decide) hF15 (fun _ h9 => h9) rfl dX8_copy_23 ?_
  refine lv_iconst (v := 0) hx hb dX8_copy_26 ic_0 ?_
  refine lv_aload_n hx hb dX8_copy_27 rfl (lv_at hl 0 rfl) ?_
  refine va_get (D := (dC, dI)) (ci := 7) (v := .ref (ad (b1 + 2))) (C := RX8) (T := TX8) (N := 4) hx hb hts hinX8 hown hK hP 0 rfl rfl 2 (by decide) hF15 (fun _ h9 => h9) rfl dX8_copy_28 ?_
  refine lv_iconst (v := 0) hx hb dX8_copy_31 ic_0 ?_
  refine lv_iconst (v := 2) hx hb dX8_copy_32 ic_2 ?_
  refine va_copyi hx hb (hml.trans hl.1.symm) hown (hts (.methodLink RX8 25 arraycopyName) (List.mem_of_getElem? (i := 3) rfl)) (hts (.native arraycopyName) (List.mem_of_getElem? (i := 4) rfl)) (hts (.static arraycopyName) (List.mem_of_getElem? (i := 5) rfl)) (hts (.initialized "java/lang/System") (List.mem_of_getElem? (i := 6) rfl)) hK hP hD hS 6 2 0 0 rfl rfl rfl rfl rfl (by decide) (by decide) (by decide) (by decide) (by decide) (fun _ _ => rfl) (Nat.le_of_ble_eq_true rfl) (Nat.le_of_ble_eq_true rfl) dX8_copy_33 (fun H33 locs33 hP' hD' hS' => ?_)
  replace hS := hS'
  have hP' : va_P (dC, dI) vwCl (fl [(w_X8 ad (b1) cs (sU S1_19 1 (va_cpy (S2 1) (S1_19 1) (0 : Int32).toNatClampNeg (0 : Int32).toNatClampNeg (2 : Int32).toNatClampNeg))), (w_X8 ad (b2) cs S2)]) H33 := hP'
  have hD' : va_D A (fl [(w_X8 ad (b1) cs (sU S1_19 1 (va_cpy (S2 1) (S1_19 1) (0 : Int32).toNatClampNeg (0 : Int32).toNatClampNeg (2 : Int32).toNatClampNeg))), (w_X8 ad (b2) cs S2)]) := hD'
  replace hR := bn_e hR
  obtain ⟨S1_33, eS1_33, hR⟩ := hR
  replace hP : va_P (dC, dI) vwCl (fl [(w_X8 ad (b1) cs S1_33), (w_X8 ad (b2) cs S2)]) H33 := by rw [eS1_33]; exact hP'
  replace hD : va_D A (fl [(w_X8 ad (b1) cs S1_33), (w_X8 ad (b2) cs S2)]) := by rw [eS1_33]; exact hD'
  clear hP' hD' hS'
  refine lv_aload_n hx hb dX8_copy_36 rfl (lv_at hl 1 rfl) ?_
  refine va_get (D := (dC, dI)) (ci := 7) (v := .ref (ad (b2 + 3))) (C := RX8) (T := TX8) (N := 4) hx hb hts hinX8 hown hK hP 4 rfl rfl 3 (by decide) hF18 (fun _ h9 => h9) rfl dX8_copy_37 ?_
  refine lv_iconst (v := 0) hx hb dX8_copy_40 ic_0 ?_
  refine lv_aload_n hx hb dX8_copy_41 rfl (lv_at hl 0 rfl) ?_
  refine va_get (D := (dC, dI)) (ci := 7) (v := .ref (ad (b1 + 3))) (C := RX8) (T := TX8) (N := 4) hx hb hts hinX8 hown hK hP 0 rfl rfl 3 (by decide) hF18 (fun _ h9 => h9) rfl dX8_copy_42 ?_
  refine lv_iconst (v := 0) hx hb dX8_copy_45 ic_0 ?_
  refine lv_iconst (v := 2) hx hb dX8_copy_46 ic_2 ?_
  refine va_copyi hx hb (hml.trans hl.1.symm) hown (hts (.methodLink RX8 25 arraycopyName) (List.mem_of_getElem? (i := 3) rfl)) (hts (.native arraycopyName) (List.mem_of_getElem? (i := 4) rfl)) (hts (.static arraycopyName) (List.mem_of_getElem? (i := 5) rfl)) (hts (.initialized "java/lang/System") (List.mem_of_getElem? (i := 6) rfl)) hK hP hD hS 7 3 0 0 rfl rfl rfl rfl rfl (by decide) (by decide) (by decide) (by decide) (by decide) (fun _ _ => rfl) (Nat.le_of_ble_eq_true rfl) (Nat.le_of_ble_eq_true rfl) dX8_copy_47 (fun H47 locs47 hP' hD' hS' => ?_)
  replace hS := hS'
  have hP' : va_P (dC, dI) vwCl (fl [(w_X8 ad (b1) cs (sU S1_33 2 (va_cpy (S2 2) (S1_33 2) (0 : Int32).toNatClampNeg (0 : Int32).toNatClampNeg (2 : Int32).toNatClampNeg))), (w_X8 ad (b2) cs S2)]) H47 := hP'
  have hD' : va_D A (fl [(w_X8 ad (b1) cs (sU S1_33 2 (va_cpy (S2 2) (S1_33 2) (0 : Int32).toNatClampNeg (0 : Int32).toNatClampNeg (2 : Int32).toNatClampNeg))), (w_X8 ad (b2) cs S2)]) := hD'
  replace hR := bn_e hR
  obtain ⟨S1_47, eS1_47, hR⟩ := hR
  replace hP : va_P (dC, dI) vwCl (fl [(w_X8 ad (b1) cs S1_47), (w_X8 ad (b2) cs S2)]) H47 := by rw [eS1_47]; exact hP'
  replace hD : va_D A (fl [(w_X8 ad (b1) cs S1_47), (w_X8 ad (b2) cs S2)]) := by rw [eS1_47]; exact hD'
  clear hP' hD' hS'
  replace hR := Option.some.inj hR
  have eu1 := hR
  replace hP : va_P (dC, dI) vwCl (fl [(w_X8 ad (b1) cs u1), (w_X8 ad (b2) cs S2)]) H47 := by rw [← eu1]; exact hP
  replace hD : va_D A (fl [(w_X8 ad (b1) cs u1), (w_X8 ad (b2) cs S2)]) := by rw [← eu1]; exact hD
  exact W.vret hx hb hr (fun t ht hW => ⟨⟨(), rfl, trivial, by rw [ht]; exact hP, va_K.moved hW.alike hK, hD⟩, hS.F ht⟩) hS.2.2 dX8_copy_50
set_option maxHeartbeats 8000000 in
set_option maxRecDepth 100000 in
theorem k_X5_copy (l : Launch) (dC : Nat → ClassId) (dI : Nat → Nat → Nat) (cs : Nat → ClassId) (ad : Nat → Nat) (b1 b2 : Nat) (sz : Nat) (S1 : T3) (S2 : T3) (u1 : T3) (hR : fX5_copy S1 S2 = some u1) : Met l yX5_copy wsX5_copy ({ frames := 2, cells := 0, slots := 0, locals := 51 } : Room) (va_Pc [.ref (ad b1), .ref (ad b2)] (pW dC dI (tyL cs) (fl [(w_X5 ad (b1) cs S1), (w_X5 ad (b2) cs S2)]) sz)) (QV dC dI (tyL cs) (va_A (fl [(w_X5 ad (b1) cs S1), (w_X5 ad (b2) cs S2)]) sz) (fl [(w_X5 ad (b1) cs u1), (w_X5 ad (b2) cs S2)])) 0 0 (va_A (fl [(w_X5 ad (b1) cs S1), (w_X5 ad (b2) cs S2)]) sz) := by
  refine mt_of (own := RX5) (cc := cX5_copy) (maxL := 2) (ret := none) (Qc := fun A => QV dC dI (tyL cs) A (fl [(w_X5 ad (b1) cs u1), (w_X5 ad (b2) cs S2)])) rfl (by decide) rfl (Nat.le_of_ble_eq_true rfl) (fun p e s m below meth c A ls hsz hx hb hr hts hown hlocks hml hA hK hP hD hS hl => ?_)
  subst hsz
  have hl : lv_has ls 2 [(0, .ref (ad b1)), (1, .ref (ad b2))] := hl
  have hF12 := hts (.fieldLink RX5 12 "DockedBikes$Road" "stations" "LDockedBikes$Stations;") (List.mem_of_getElem? (i := 1) rfl)
  have hF21 := hts (.fieldLink RX5 21 "DockedBikes$Road" "bicycles" "LDockedBikes$Bicycles;") (List.mem_of_getElem? (i := 2) rfl)
  have hF28 := hts (.fieldLink RX5 28 "DockedBikes$Road" "riders" "LDockedBikes$Riders;") (List.mem_of_getElem? (i := 3) rfl)
  have hF35 := hts (.fieldLink RX5 35 "DockedBikes$Road" "vans" "LDockedBikes$Vans;") (List.mem_of_getElem? (i := 4) rfl)
  have hF39 := hts (.fieldLink RX5 39 "DockedBikes$Road" "settings" "[I") (List.mem_of_getElem? (i := 5) rfl)
  have hF62 := hts (.fieldLink RX5 62 "DockedBikes$Road" "time" "I") (List.mem_of_getElem? (i := 10) rfl)
  have hinX5 : ∀ w ∈ wsX50, w ∈ wsX5_copy := by decide +kernel
  refine lv_aload_n hx hb dX5_copy_0 rfl (lv_at hl 0 rfl) ?_
  refine va_get (D := (dC, dI)) (ci := 4) (v := .ref (ad (b1 + 1))) (C := RX5) (T := TX5) (N := 6) hx hb hts hinX5 hown hK hP 0 rfl rfl 0 (by decide) hF12 (fun _ h9 => h9) rfl dX5_copy_1 ?_
  refine lv_aload_n hx hb dX5_copy_4 rfl (lv_at hl 1 rfl) ?_
  refine va_get (D := (dC, dI)) (ci := 4) (v := .ref (ad (b2 + 1))) (C := RX5) (T := TX5) (N := 6) hx hb hts hinX5 hown hK hP 28 rfl rfl 0 (by decide) hF12 (fun _ h9 => h9) rfl dX5_copy_5 ?_
  replace hR := bd_e hR
  obtain ⟨q8, gq8, hR⟩ := hR
  replace hP : va_P (dC, dI) vwCl (fl [[((ad b1), .inr (4, [.ref (ad (b1 + 1)), .ref (ad (b1 + 6)), .ref (ad (b1 + 13)), .ref (ad (b1 + 23)), .ref (ad (b1 + 27)), .int (S1 4 1 0)]))], (w_X6 ad (b1 + 1) cs (S1 0)), (w_X1 ad (b1 + 6) cs (S1 1)), (w_X4 ad (b1 + 13) cs (S1 2)), (w_X8 ad (b1 + 23) cs (S1 3)), [((ad (b1 + 27)), .inl (cs 0, 3, .inl (S1 4 0)))], [((ad b2), .inr (4, [.ref (ad (b2 + 1)), .ref (ad (b2 + 6)), .ref (ad (b2 + 13)), .ref (ad (b2 + 23)), .ref (ad (b2 + 27)), .int (S2 4 1 0)]))], (w_X6 ad (b2 + 1) cs (S2 0)), (w_X1 ad (b2 + 6) cs (S2 1)), (w_X4 ad (b2 + 13) cs (S2 2)), (w_X8 ad (b2 + 23) cs (S2 3)), [((ad (b2 + 27)), .inl (cs 0, 3, .inl (S2 4 0)))]]) s.heap := hP
  replace hD : va_D A (fl [[((ad b1), .inr (4, [.ref (ad (b1 + 1)), .ref (ad (b1 + 6)), .ref (ad (b1 + 13)), .ref (ad (b1 + 23)), .ref (ad (b1 + 27)), .int (S1 4 1 0)]))], (w_X6 ad (b1 + 1) cs (S1 0)), (w_X1 ad (b1 + 6) cs (S1 1)), (w_X4 ad (b1 + 13) cs (S1 2)), (w_X8 ad (b1 + 23) cs (S1 3)), [((ad (b1 + 27)), .inl (cs 0, 3, .inl (S1 4 0)))], [((ad b2), .inr (4, [.ref (ad (b2 + 1)), .ref (ad (b2 + 6)), .ref (ad (b2 + 13)), .ref (ad (b2 + 23)), .ref (ad (b2 + 27)), .int (S2 4 1 0)]))], (w_X6 ad (b2 + 1) cs (S2 0)), (w_X1 ad (b2 + 6) cs (S2 1)), (w_X4 ad (b2 + 13) cs (S2 2)), (w_X8 ad (b2 + 23) cs (S2 3)), [((ad (b2 + 27)), .inl (cs 0, 3, .inl (S2 4 0)))]]) := hD
  refine cl_Vv (As := [.ref (ad (b2 + 1))]) (rest := []) (L := [[((ad b1), .inr (4, [.ref (ad (b1 + 1)), .ref (ad (b1 + 6)), .ref (ad (b1 + 13)), .ref (ad (b1 + 23)), .ref (ad (b1 + 27)), .int (S1 4 1 0)]))], (w_X6 ad (b1 + 1) cs (S1 0)), (w_X1 ad (b1 + 6) cs (S1 1)), (w_X4 ad (b1 + 13) cs (S1 2)), (w_X8 ad (b1 + 23) cs (S1 3)), [((ad (b1 + 27)), .inl (cs 0, 3, .inl (S1 4 0)))], [((ad b2), .inr (4, [.ref (ad (b2 + 1)), .ref (ad (b2 + 6)), .ref (ad (b2 + 13)), .ref (ad (b2 + 23)), .ref (ad (b2 + 27)), .int (S2 4 1 0)]))], (w_X6 ad (b2 + 1) cs (S2 0)), (w_X1 ad (b2 + 6) cs (S2 1)), (w_X4 ad (b2 + 13) cs (S2 2)), (w_X8 ad (b2 + 23) cs (S2 3)), [((ad (b2 + 27)), .inl (cs 0, 3, .inl (S2 4 0)))]]) (L' := [[((ad b1), .inr (4, [.ref (ad (b1 + 1)), .ref (ad (b1 + 6)), .ref (ad (b1 + 13)), .ref (ad (b1 + 23)), .ref (ad (b1 + 27)), .int ((sU S1 0 q8) 4 1 0)]))], (w_X6 ad (b1 + 1) cs ((sU S1 0 q8) 0)), (w_X1 ad (b1 + 6) cs ((sU S1 0 q8) 1)), (w_X4 ad (b1 + 13) cs ((sU S1 0 q8) 2)), (w_X8 ad (b1 + 23) cs ((sU S1 0 q8) 3)), [((ad (b1 + 27)), .inl (cs 0, 3, .inl ((sU S1 0 q8) 4 0)))], [((ad b2), .inr (4, [.ref (ad (b2 + 1)), .ref (ad (b2 + 6)), .ref (ad (b2 + 13)), .ref (ad (b2 + 23)), .ref (ad (b2 + 27)), .int (S2 4 1 0)]))], (w_X6 ad (b2 + 1) cs (S2 0)), (w_X1 ad (b2 + 6) cs (S2 1)), (w_X4 ad (b2 + 13) cs (S2 2)), (w_X8 ad (b2 + 23) cs (S2 3)), [((ad (b2 + 27)), .inl (cs 0, 3, .inl (S2 4 0)))]]) (Wc := [(w_X6 ad (b1 + 1) cs (S1 0)), (w_X6 ad (b2 + 1) cs (S2 0))]) (Wc' := [(w_X6 ad (b1 + 1) cs q8), (w_X6 ad (b2 + 1) cs (S2 0))]) (is := [1, 7]) (js := [0, 2, 3, 4, 5, 6, 8, 9, 10, 11]) ⟨hx, hb, hml, hown, hts⟩ (k_X6_copy l dC dI cs ad (b1 + 1) (b2 + 1) s.heap.size (S1 0) (S2 0) q8 gq8) (cwV 1 hts gX5_copy_X6_copy rfl rfl rfl cd_X6_copy ⟨Nat.le_of_ble_eq_true rfl, Nat.le_of_ble_eq_true rfl⟩) hK hP hD hS hA ⟨rfl, rfl, rfl, rfl, rfl, rfl⟩ (jn_nd (is := [1, 7]) hD rfl rfl) 1 5 rfl rfl rfl rfl rfl hl.1 (Nat.le_of_ble_eq_true rfl) dX5_copy_8 (fun H8 locs8 hP' hD' hS' => ?_)
  replace hS := hS'
  have hP' : va_P (dC, dI) vwCl (fl [(w_X5 ad (b1) cs (sU S1 0 q8)), (w_X5 ad (b2) cs S2)]) H8 := hP'
  have hD' : va_D A (fl [(w_X5 ad (b1) cs (sU S1 0 q8)), (w_X5 ad (b2) cs S2)]) := hD'
  replace hR := bn_e hR
  obtain ⟨S1_8, eS1_8, hR⟩ := hR
  replace hP : va_P (dC, dI) vwCl (fl [(w_X5 ad (b1) cs S1_8), (w_X5 ad (b2) cs S2)]) H8 := by rw [eS1_8]; exact hP'
  replace hD : va_D A (fl [(w_X5 ad (b1) cs S1_8), (w_X5 ad (b2) cs S2)]) := by rw [eS1_8]; exact hD'
  clear hP' hD' hS'
  refine lv_aload_n hx hb dX5_copy_11 rfl (lv_at hl 0 rfl) ?_
  refine va_get (D := (dC, dI)) (ci := 4) (v := .ref (ad (b1 + 6))) (C := RX5) (T := TX5) (N := 6) hx hb hts hinX5 hown hK hP 0 rfl rfl 1 (by decide) hF21 (fun _ h9 => h9) rfl dX5_copy_12 ?_
  refine lv_aload_n hx hb dX5_copy_15 rfl (lv_at hl 1 rfl) ?_
  refine va_get (D := (dC, dI)) (ci := 4) (v := .ref (ad (b2 + 6))) (C := RX5) (T := TX5) (N := 6) hx hb hts hinX5 hown hK hP 28 rfl rfl 1 (by decide) hF21 (fun _ h9 => h9) rfl dX5_copy_16 ?_
  replace hR := bd_e hR
  obtain ⟨q19, gq19, hR⟩ := hR
  replace hP : va_P (dC, dI) vwCl (fl [[((ad b1), .inr (4, [.ref (ad (b1 + 1)), .ref (ad (b1 + 6)), .ref (ad (b1 + 13)), .ref (ad (b1 + 23)), .ref (ad (b1 + 27)), .int (S1_8 4 1 0)]))], (w_X6 ad (b1 + 1) cs (S1_8 0)), (w_X1 ad (b1 + 6) cs (S1_8 1)), (w_X4 ad (b1 + 13) cs (S1_8 2)), (w_X8 ad (b1 + 23) cs (S1_8 3)), [((ad (b1 + 27)), .inl (cs 0, 3, .inl (S1_8 4 0)))], [((ad b2), .inr (4, [.ref (ad (b2 + 1)), .ref (ad (b2 + 6)), .ref (ad (b2 + 13)), .ref (ad (b2 + 23)), .ref (ad (b2 + 27)), .int (S2 4 1 0)]))], (w_X6 ad (b2 + 1) cs (S2 0)), (w_X1 ad (b2 + 6) cs (S2 1)), (w_X4 ad (b2 + 13) cs (S2 2)), (w_X8 ad (b2 + 23) cs (S2 3)), [((ad (b2 + 27)), .inl (cs 0, 3, .inl (S2 4 0)))]]) H8 := hP
  replace hD : va_D A (fl [[((ad b1), .inr (4, [.ref (ad (b1 + 1)), .ref (ad (b1 + 6)), .ref (ad (b1 + 13)), .ref (ad (b1 + 23)), .ref (ad (b1 + 27)), .int (S1_8 4 1 0)]))], (w_X6 ad (b1 + 1) cs (S1_8 0)), (w_X1 ad (b1 + 6) cs (S1_8 1)), (w_X4 ad (b1 + 13) cs (S1_8 2)), (w_X8 ad (b1 + 23) cs (S1_8 3)), [((ad (b1 + 27)), .inl (cs 0, 3, .inl (S1_8 4 0)))], [((ad b2), .inr (4, [.ref (ad (b2 + 1)), .ref (ad (b2 + 6)), .ref (ad (b2 + 13)), .ref (ad (b2 + 23)), .ref (ad (b2 + 27)), .int (S2 4 1 0)]))], (w_X6 ad (b2 + 1) cs (S2 0)), (w_X1 ad (b2 + 6) cs (S2 1)), (w_X4 ad (b2 + 13) cs (S2 2)), (w_X8 ad (b2 + 23) cs (S2 3)), [((ad (b2 + 27)), .inl (cs 0, 3, .inl (S2 4 0)))]]) := hD
  refine cl_Vv (As := [.ref (ad (b2 + 6))]) (rest := []) (L := [[((ad b1), .inr (4, [.ref (ad (b1 + 1)), .ref (ad (b1 + 6)), .ref (ad (b1 + 13)), .ref (ad (b1 + 23)), .ref (ad (b1 + 27)), .int (S1_8 4 1 0)]))], (w_X6 ad (b1 + 1) cs (S1_8 0)), (w_X1 ad (b1 + 6) cs (S1_8 1)), (w_X4 ad (b1 + 13) cs (S1_8 2)), (w_X8 ad (b1 + 23) cs (S1_8 3)), [((ad (b1 + 27)), .inl (cs 0, 3, .inl (S1_8 4 0)))], [((ad b2), .inr (4, [.ref (ad (b2 + 1)), .ref (ad (b2 + 6)), .ref (ad (b2 + 13)), .ref (ad (b2 + 23)), .ref (ad (b2 + 27)), .int (S2 4 1 0)]))], (w_X6 ad (b2 + 1) cs (S2 0)), (w_X1 ad (b2 + 6) cs (S2 1)), (w_X4 ad (b2 + 13) cs (S2 2)), (w_X8 ad (b2 + 23) cs (S2 3)), [((ad (b2 + 27)), .inl (cs 0, 3, .inl (S2 4 0)))]]) (L' := [[((ad b1), .inr (4, [.ref (ad (b1 + 1)), .ref (ad (b1 + 6)), .ref (ad (b1 + 13)), .ref (ad (b1 + 23)), .ref (ad (b1 + 27)), .int ((sU S1_8 1 q19) 4 1 0)]))], (w_X6 ad (b1 + 1) cs ((sU S1_8 1 q19) 0)), (w_X1 ad (b1 + 6) cs ((sU S1_8 1 q19) 1)), (w_X4 ad (b1 + 13) cs ((sU S1_8 1 q19) 2)), (w_X8 ad (b1 + 23) cs ((sU S1_8 1 q19) 3)), [((ad (b1 + 27)), .inl (cs 0, 3, .inl ((sU S1_8 1 q19) 4 0)))], [((ad b2), .inr (4, [.ref (ad (b2 + 1)), .ref (ad (b2 + 6)), .ref (ad (b2 + 13)), .ref (ad (b2 + 23)), .ref (ad (b2 + 27)), .int (S2 4 1 0)]))], (w_X6 ad (b2 + 1) cs (S2 0)), (w_X1 ad (b2 + 6) cs (S2 1)), (w_X4 ad (b2 + 13) cs (S2 2)), (w_X8 ad (b2 + 23) cs (S2 3)), [((ad (b2 + 27)), .inl (cs 0, 3, .inl (S2 4 0)))]]) (Wc := [(w_X1 ad (b1 + 6) cs (S1_8 1)), (w_X1 ad (b2 + 6) cs (S2 1))]) (Wc' := [(w_X1 ad (b1 + 6) cs q19), (w_X1 ad (b2 + 6) cs (S2 1))]) (is := [2, 8]) (js := [0, 1, 3, 4, 5, 6, 7, 9, 10, 11]) ⟨hx, hb, hml, hown, hts⟩ (k_X1_copy l dC dI cs ad (b1 + 6) (b2 + 6) H8.size (S1_8 1) (S2 1) q19 gq19) (cwV 1 hts gX5_copy_X1_copy rfl rfl rfl cd_X1_copy ⟨Nat.le_of_ble_eq_true rfl, Nat.le_of_ble_eq_true rfl⟩) hK hP hD hS hA ⟨rfl, rfl, rfl, rfl, rfl, rfl⟩ (jn_nd (is := [2, 8]) hD rfl rfl) 6 0 rfl rfl rfl rfl rfl hl.1 (Nat.le_of_ble_eq_true rfl) dX5_copy_19 (fun H19 locs19 hP' hD' hS' => ?_)
  replace hS := hS'
  have hP' : va_P (dC, dI) vwCl (fl [(w_X5 ad (b1) cs (sU S1_8 1 q19)), (w_X5 ad (b2) cs S2)]) H19 := hP'
  have hD' : va_D A (fl [(w_X5 ad (b1) cs (sU S1_8 1 q19)), (w_X5 ad (b2) cs S2)]) := hD'
  replace hR := bn_e hR
  obtain ⟨S1_19, eS1_19, hR⟩ := hR
  replace hP : va_P (dC, dI) vwCl (fl [(w_X5 ad (b1) cs S1_19), (w_X5 ad (b2) cs S2)]) H19 := by rw [eS1_19]; exact hP'
  replace hD : va_D A (fl [(w_X5 ad (b1) cs S1_19), (w_X5 ad (b2) cs S2)]) := by rw [eS1_19]; exact hD'
  clear hP' hD' hS'
  refine lv_aload_n hx hb dX5_copy_22 rfl (lv_at hl 0 rfl) ?_
  refine va_get (D := (dC, dI)) (ci := 4) (v := .ref (ad (b1 + 13))) (C := RX5) (T := TX5) (N := 6) hx hb hts hinX5 hown hK hP 0 rfl rfl 2 (by decide) hF28 (fun _ h9 => h9) rfl dX5_copy_23 ?_
  refine lv_aload_n hx hb dX5_copy_26 rfl (lv_at hl 1 rfl) ?_
  refine va_get (D := (dC, dI)) (ci := 4) (v := .ref (ad (b2 + 13))) (C := RX5) (T := TX5) (N := 6) hx hb hts hinX5 hown hK hP 28 rfl rfl 2 (by decide) hF28 (fun _ h9 => h9) rfl dX5_copy_27 ?_
  replace hR := bd_e hR
  obtain ⟨q30, gq30, hR⟩ := hR
  replace hP : va_P (dC, dI) vwCl (fl [[((ad b1), .inr (4, [.ref (ad (b1 + 1)), .ref (ad (b1 + 6)), .ref (ad (b1 + 13)), .ref (ad (b1 + 23)), .ref (ad (b1 + 27)), .int (S1_19 4 1 0)]))], (w_X6 ad (b1 + 1) cs (S1_19 0)), (w_X1 ad (b1 + 6) cs (S1_19 1)), (w_X4 ad (b1 + 13) cs (S1_19 2)), (w_X8 ad (b1 + 23) cs (S1_19 3)), [((ad (b1 + 27)), .inl (cs 0, 3, .inl (S1_19 4 0)))], [((ad b2), .inr (4, [.ref (ad (b2 + 1)), .ref (ad (b2 + 6)), .ref (ad (b2 + 13)), .ref (ad (b2 + 23)), .ref (ad (b2 + 27)), .int (S2 4 1 0)]))], (w_X6 ad (b2 + 1) cs (S2 0)), (w_X1 ad (b2 + 6) cs (S2 1)), (w_X4 ad (b2 + 13) cs (S2 2)), (w_X8 ad (b2 + 23) cs (S2 3)), [((ad (b2 + 27)), .inl (cs 0, 3, .inl (S2 4 0)))]]) H19 := hP
  replace hD : va_D A (fl [[((ad b1), .inr (4, [.ref (ad (b1 + 1)), .ref (ad (b1 + 6)), .ref (ad (b1 + 13)), .ref (ad (b1 + 23)), .ref (ad (b1 + 27)), .int (S1_19 4 1 0)]))], (w_X6 ad (b1 + 1) cs (S1_19 0)), (w_X1 ad (b1 + 6) cs (S1_19 1)), (w_X4 ad (b1 + 13) cs (S1_19 2)), (w_X8 ad (b1 + 23) cs (S1_19 3)), [((ad (b1 + 27)), .inl (cs 0, 3, .inl (S1_19 4 0)))], [((ad b2), .inr (4, [.ref (ad (b2 + 1)), .ref (ad (b2 + 6)), .ref (ad (b2 + 13)), .ref (ad (b2 + 23)), .ref (ad (b2 + 27)), .int (S2 4 1 0)]))], (w_X6 ad (b2 + 1) cs (S2 0)), (w_X1 ad (b2 + 6) cs (S2 1)), (w_X4 ad (b2 + 13) cs (S2 2)), (w_X8 ad (b2 + 23) cs (S2 3)), [((ad (b2 + 27)), .inl (cs 0, 3, .inl (S2 4 0)))]]) := hD
  refine cl_Vv (As := [.ref (ad (b2 + 13))]) (rest := []) (L := [[((ad b1), .inr (4, [.ref (ad (b1 + 1)), .ref (ad (b1 + 6)), .ref (ad (b1 + 13)), .ref (ad (b1 + 23)), .ref (ad (b1 + 27)), .int (S1_19 4 1 0)]))], (w_X6 ad (b1 + 1) cs (S1_19 0)), (w_X1 ad (b1 + 6) cs (S1_19 1)), (w_X4 ad (b1 + 13) cs (S1_19 2)), (w_X8 ad (b1 + 23) cs (S1_19 3)), [((ad (b1 + 27)), .inl (cs 0, 3, .inl (S1_19 4 0)))], [((ad b2), .inr (4, [.ref (ad (b2 + 1)), .ref (ad (b2 + 6)), .ref (ad (b2 + 13)), .ref (ad (b2 + 23)), .ref (ad (b2 + 27)), .int (S2 4 1 0)]))], (w_X6 ad (b2 + 1) cs (S2 0)), (w_X1 ad (b2 + 6) cs (S2 1)), (w_X4 ad (b2 + 13) cs (S2 2)), (w_X8 ad (b2 + 23) cs (S2 3)), [((ad (b2 + 27)), .inl (cs 0, 3, .inl (S2 4 0)))]]) (L' := [[((ad b1), .inr (4, [.ref (ad (b1 + 1)), .ref (ad (b1 + 6)), .ref (ad (b1 + 13)), .ref (ad (b1 + 23)), .ref (ad (b1 + 27)), .int ((sU S1_19 2 q30) 4 1 0)]))], (w_X6 ad (b1 + 1) cs ((sU S1_19 2 q30) 0)), (w_X1 ad (b1 + 6) cs ((sU S1_19 2 q30) 1)), (w_X4 ad (b1 + 13) cs ((sU S1_19 2 q30) 2)), (w_X8 ad (b1 + 23) cs ((sU S1_19 2 q30) 3)), [((ad (b1 + 27)), .inl (cs 0, 3, .inl ((sU S1_19 2 q30) 4 0)))], [((ad b2), .inr (4, [.ref (ad (b2 + 1)), .ref (ad (b2 + 6)), .ref (ad (b2 + 13)), .ref (ad (b2 + 23)), .ref (ad (b2 + 27)), .int (S2 4 1 0)]))], (w_X6 ad (b2 + 1) cs (S2 0)), (w_X1 ad (b2 + 6) cs (S2 1)), (w_X4 ad (b2 + 13) cs (S2 2)), (w_X8 ad (b2 + 23) cs (S2 3)), [((ad (b2 + 27)), .inl (cs 0, 3, .inl (S2 4 0)))]]) (Wc := [(w_X4 ad (b1 + 13) cs (S1_19 2)), (w_X4 ad (b2 + 13) cs (S2 2))]) (Wc' := [(w_X4 ad (b1 + 13) cs q30), (w_X4 ad (b2 + 13) cs (S2 2))]) (is := [3, 9]) (js := [0, 1, 2, 4, 5, 6, 7, 8, 10, 11]) ⟨hx, hb, hml, hown, hts⟩ (k_X4_copy l dC dI cs ad (b1 + 13) (b2 + 13) H19.size (S1_19 2) (S2 2) q30 gq30) (cwV 1 hts gX5_copy_X4_copy rfl rfl rfl cd_X4_copy ⟨Nat.le_of_ble_eq_true rfl, Nat.le_of_ble_eq_true rfl⟩) hK hP hD hS hA ⟨rfl, rfl, rfl, rfl, rfl, rfl⟩ (jn_nd (is := [3, 9]) hD rfl rfl) 13 3 rfl rfl rfl rfl rfl hl.1 (Nat.le_of_ble_eq_true rfl) dX5_copy_30 (fun H30 locs30 hP' hD' hS' => ?_)
  replace hS := hS'
  have hP' : va_P (dC, dI) vwCl (fl [(w_X5 ad (b1) cs (sU S1_19 2 q30)), (w_X5 ad (b2) cs S2)]) H30 := hP'
  have hD' : va_D A (fl [(w_X5 ad (b1) cs (sU S1_19 2 q30)), (w_X5 ad (b2) cs S2)]) := hD'
  replace hR := bn_e hR
  obtain ⟨S1_30, eS1_30, hR⟩ := hR
  replace hP : va_P (dC, dI) vwCl (fl [(w_X5 ad (b1) cs S1_30), (w_X5 ad (b2) cs S2)]) H30 := by rw [eS1_30]; exact hP'
  replace hD : va_D A (fl [(w_X5 ad (b1) cs S1_30), (w_X5 ad (b2) cs S2)]) := by rw [eS1_30]; exact hD'
  clear hP' hD' hS'
  refine lv_aload_n hx hb dX5_copy_33 rfl (lv_at hl 0 rfl) ?_
  refine va_get (D := (dC, dI)) (ci := 4) (v := .ref (ad (b1 + 23))) (C := RX5) (T := TX5) (N := 6) hx hb hts hinX5 hown hK hP 0 rfl rfl 3 (by decide) hF35 (fun _ h9 => h9) rfl dX5_copy_34 ?_
  refine lv_aload_n hx hb dX5_copy_37 rfl (lv_at hl 1 rfl) ?_
  refine va_get (D := (dC, dI)) (ci := 4) (v := .ref (ad (b2 + 23))) (C := RX5) (T := TX5) (N := 6) hx hb hts hinX5 hown hK hP 28 rfl rfl 3 (by decide) hF35 (fun _ h9 => h9) rfl dX5_copy_38 ?_
  replace hR := bd_e hR
  obtain ⟨q41, gq41, hR⟩ := hR
  replace hP : va_P (dC, dI) vwCl (fl [[((ad b1), .inr (4, [.ref (ad (b1 + 1)), .ref (ad (b1 + 6)), .ref (ad (b1 + 13)), .ref (ad (b1 + 23)), .ref (ad (b1 + 27)), .int (S1_30 4 1 0)]))], (w_X6 ad (b1 + 1) cs (S1_30 0)), (w_X1 ad (b1 + 6) cs (S1_30 1)), (w_X4 ad (b1 + 13) cs (S1_30 2)), (w_X8 ad (b1 + 23) cs (S1_30 3)), [((ad (b1 + 27)), .inl (cs 0, 3, .inl (S1_30 4 0)))], [((ad b2), .inr (4, [.ref (ad (b2 + 1)), .ref (ad (b2 + 6)), .ref (ad (b2 + 13)), .ref (ad (b2 + 23)), .ref (ad (b2 + 27)), .int (S2 4 1 0)]))], (w_X6 ad (b2 + 1) cs (S2 0)), (w_X1 ad (b2 + 6) cs (S2 1)), (w_X4 ad (b2 + 13) cs (S2 2)), (w_X8 ad (b2 + 23) cs (S2 3)), [((ad (b2 + 27)), .inl (cs 0, 3, .inl (S2 4 0)))]]) H30 := hP
  replace hD : va_D A (fl [[((ad b1), .inr (4, [.ref (ad (b1 + 1)), .ref (ad (b1 + 6)), .ref (ad (b1 + 13)), .ref (ad (b1 + 23)), .ref (ad (b1 + 27)), .int (S1_30 4 1 0)]))], (w_X6 ad (b1 + 1) cs (S1_30 0)), (w_X1 ad (b1 + 6) cs (S1_30 1)), (w_X4 ad (b1 + 13) cs (S1_30 2)), (w_X8 ad (b1 + 23) cs (S1_30 3)), [((ad (b1 + 27)), .inl (cs 0, 3, .inl (S1_30 4 0)))], [((ad b2), .inr (4, [.ref (ad (b2 + 1)), .ref (ad (b2 + 6)), .ref (ad (b2 + 13)), .ref (ad (b2 + 23)), .ref (ad (b2 + 27)), .int (S2 4 1 0)]))], (w_X6 ad (b2 + 1) cs (S2 0)), (w_X1 ad (b2 + 6) cs (S2 1)), (w_X4 ad (b2 + 13) cs (S2 2)), (w_X8 ad (b2 + 23) cs (S2 3)), [((ad (b2 + 27)), .inl (cs 0, 3, .inl (S2 4 0)))]]) := hD
  refine cl_Vv (As := [.ref (ad (b2 + 23))]) (rest := []) (L := [[((ad b1), .inr (4, [.ref (ad (b1 + 1)), .ref (ad (b1 + 6)), .ref (ad (b1 + 13)), .ref (ad (b1 + 23)), .ref (ad (b1 + 27)), .int (S1_30 4 1 0)]))], (w_X6 ad (b1 + 1) cs (S1_30 0)), (w_X1 ad (b1 + 6) cs (S1_30 1)), (w_X4 ad (b1 + 13) cs (S1_30 2)), (w_X8 ad (b1 + 23) cs (S1_30 3)), [((ad (b1 + 27)), .inl (cs 0, 3, .inl (S1_30 4 0)))], [((ad b2), .inr (4, [.ref (ad (b2 + 1)), .ref (ad (b2 + 6)), .ref (ad (b2 + 13)), .ref (ad (b2 + 23)), .ref (ad (b2 + 27)), .int (S2 4 1 0)]))], (w_X6 ad (b2 + 1) cs (S2 0)), (w_X1 ad (b2 + 6) cs (S2 1)), (w_X4 ad (b2 + 13) cs (S2 2)), (w_X8 ad (b2 + 23) cs (S2 3)), [((ad (b2 + 27)), .inl (cs 0, 3, .inl (S2 4 0)))]]) (L' := [[((ad b1), .inr (4, [.ref (ad (b1 + 1)), .ref (ad (b1 + 6)), .ref (ad (b1 + 13)), .ref (ad (b1 + 23)), .ref (ad (b1 + 27)), .int ((sU S1_30 3 q41) 4 1 0)]))], (w_X6 ad (b1 + 1) cs ((sU S1_30 3 q41) 0)), (w_X1 ad (b1 + 6) cs ((sU S1_30 3 q41) 1)), (w_X4 ad (b1 + 13) cs ((sU S1_30 3 q41) 2)), (w_X8 ad (b1 + 23) cs ((sU S1_30 3 q41) 3)), [((ad (b1 + 27)), .inl (cs 0, 3, .inl ((sU S1_30 3 q41) 4 0)))], [((ad b2), .inr (4, [.ref (ad (b2 + 1)), .ref (ad (b2 + 6)), .ref (ad (b2 + 13)), .ref (ad (b2 + 23)), .ref (ad (b2 + 27)), .int (S2 4 1 0)]))], (w_X6 ad (b2 + 1) cs (S2 0)), (w_X1 ad (b2 + 6) cs (S2 1)), (w_X4 ad (b2 + 13) cs (S2 2)), (w_X8 ad (b2 + 23) cs (S2 3)), [((ad (b2 + 27)), .inl (cs 0, 3, .inl (S2 4 0)))]]) (Wc := [(w_X8 ad (b1 + 23) cs (S1_30 3)), (w_X8 ad (b2 + 23) cs (S2 3))]) (Wc' := [(w_X8 ad (b1 + 23) cs q41), (w_X8 ad (b2 + 23) cs (S2 3))]) (is := [4, 10]) (js := [0, 1, 2, 3, 5, 6, 7, 8, 9, 11]) ⟨hx, hb, hml, hown, hts⟩ (k_X8_copy l dC dI cs ad (b1 + 23) (b2 + 23) H30.size (S1_30 3) (S2 3) q41 gq41) (cwV 1 hts gX5_copy_X8_copy rfl rfl rfl cd_X8_copy ⟨Nat.le_of_ble_eq_true rfl, Nat.le_of_ble_eq_true rfl⟩) hK hP hD hS hA ⟨rfl, rfl, rfl, rfl, rfl, rfl⟩ (jn_nd (is := [4, 10]) hD rfl rfl) 23 7 rfl rfl rfl rfl rfl hl.1 (Nat.le_of_ble_eq_true rfl) dX5_copy_41 (fun H41 locs41 hP' hD' hS' => ?_)
  replace hS := hS'
  have hP' : va_P (dC, dI) vwCl (fl [(w_X5 ad (b1) cs (sU S1_30 3 q41)), (w_X5 ad (b2) cs S2)]) H41 := hP'
  have hD' : va_D A (fl [(w_X5 ad (b1) cs (sU S1_30 3 q41)), (w_X5 ad (b2) cs S2)]) := hD'
  replace hR := bn_e hR
  obtain ⟨S1_41, eS1_41, hR⟩ := hR
  replace hP : va_P (dC, dI) vwCl (fl [(w_X5 ad (b1) cs S1_41), (w_X5 ad (b2) cs S2)]) H41 := by rw [eS1_41]; exact hP'
  replace hD : va_D A (fl [(w_X5 ad (b1) cs S1_41), (w_X5 ad (b2) cs S2)]) := by rw [eS1_41]; exact hD'
  clear hP' hD' hS'
  refine lv_aload_n hx hb dX5_copy_44 rfl (lv_at hl 1 rfl) ?_
  refine va_get (D := (dC, dI)) (ci := 4) (v := .ref (ad (b2 + 27))) (C := RX5) (T := TX5) (N := 6) hx hb hts hinX5 hown hK hP 28 rfl rfl 4 (by decide) hF39 (fun _ h9 => h9) rfl dX5_copy_45 ?_
  refine lv_iconst (v := 0) hx hb dX5_copy_48 ic_0 ?_
  refine lv_aload_n hx hb dX5_copy_49 rfl (lv_at hl 0 rfl) ?_
  refine va_get (D := (dC, dI)) (ci := 4) (v := .ref (ad (b1 + 27))) (C := RX5) (T := TX5) (N := 6) hx hb hts hinX5 hown hK hP 0 rfl rfl 4 (by decide) hF39 (fun _ h9 => h9) rfl dX5_copy_50 ?_
  refine lv_iconst (v := 0) hx hb dX5_copy_53 ic_0 ?_
  refine lv_iconst (v := 3) hx hb dX5_copy_54 ic_3 ?_
  refine va_copyi hx hb (hml.trans hl.1.symm) hown (hts (.methodLink RX5 56 arraycopyName) (List.mem_of_getElem? (i := 6) rfl)) (hts (.native arraycopyName) (List.mem_of_getElem? (i := 7) rfl)) (hts (.static arraycopyName) (List.mem_of_getElem? (i := 8) rfl)) (hts (.initialized "java/lang/System") (List.mem_of_getElem? (i := 9) rfl)) hK hP hD hS 55 27 0 0 rfl rfl rfl rfl rfl (by decide) (by decide) (by decide) (by decide) (by decide) (fun _ _ => rfl) (Nat.le_of_ble_eq_true rfl) (Nat.le_of_ble_eq_true rfl) dX5_copy_55 (fun H55 locs55 hP' hD' hS' => ?_)
  replace hS := hS'
  have hP' : va_P (dC, dI) vwCl (fl [(w_X5 ad (b1) cs (sU S1_41 4 (sU (S1_41 4) 0 (va_cpy (S2 4 0) (S1_41 4 0) (0 : Int32).toNatClampNeg (0 : Int32).toNatClampNeg (3 : Int32).toNatClampNeg)))), (w_X5 ad (b2) cs S2)]) H55 := hP'
  have hD' : va_D A (fl [(w_X5 ad (b1) cs (sU S1_41 4 (sU (S1_41 4) 0 (va_cpy (S2 4 0) (S1_41 4 0) (0 : Int32).toNatClampNeg (0 : Int32).toNatClampNeg (3 : Int32).toNatClampNeg)))), (w_X5 ad (b2) cs S2)]) := hD'
  replace hR := bn_e hR
  obtain ⟨S1_55, eS1_55, hR⟩ := hR
  replace hP : va_P (dC, dI) vwCl (fl [(w_X5 ad (b1) cs S1_55), (w_X5 ad (b2) cs S2)]) H55 := by rw [eS1_55]; exact hP'
  replace hD : va_D A (fl [(w_X5 ad (b1) cs S1_55), (w_X5 ad (b2) cs S2)]) := by rw [eS1_55]; exact hD'
  clear hP' hD' hS'
  refine lv_aload_n hx hb dX5_copy_58 rfl (lv_at hl 0 rfl) ?_
  refine lv_aload_n hx hb dX5_copy_59 rfl (lv_at hl 1 rfl) ?_
  refine va_get (D := (dC, dI)) (ci := 4) (v := .int (S2 4 1 0)) (C := RX5) (T := TX5) (N := 6) hx hb hts hinX5 hown hK hP 28 rfl rfl 5 (by decide) hF62 (fun _ h9 => h9) rfl dX5_copy_60 ?_
  refine va_put (D := (dC, dI)) (ci := 4) (v := .int (S2 4 1 0)) (ty := .int) (C := RX5) (T := TX5) (N := 6) hx hb hts hinX5 tyX5 tyX5_ok nmX5 hown hK hP hD hS 0 rfl rfl 5 (by decide) hF62 (fun _ h9 => h9) rfl (by decide +kernel) rfl rfl (Nat.le_of_ble_eq_true rfl) dX5_copy_63 (fun H63 locs63 hP' hD' hS' => ?_)
  replace hS := hS'
  have hP' : va_P (dC, dI) vwCl (fl [(w_X5 ad (b1) cs (sU S1_55 4 (sU (S1_55 4) 1 (sU ((S1_55 4) 1) 0 (S2 4 1 0))))), (w_X5 ad (b2) cs S2)]) H63 := hP'
  have hD' : va_D A (fl [(w_X5 ad (b1) cs (sU S1_55 4 (sU (S1_55 4) 1 (sU ((S1_55 4) 1) 0 (S2 4 1 0))))), (w_X5 ad (b2) cs S2)]) := hD'
  replace hR := bn_e hR
  obtain ⟨S1_63, eS1_63, hR⟩ := hR
  replace hP : va_P (dC, dI) vwCl (fl [(w_X5 ad (b1) cs S1_63), (w_X5 ad (b2) cs S2)]) H63 := by rw [eS1_63]; exact hP'
  replace hD : va_D A (fl [(w_X5 ad (b1) cs S1_63), (w_X5 ad (b2) cs S2)]) := by rw [eS1_63]; exact hD'
  clear hP' hD' hS'
  replace hR := Option.some.inj hR
  have eu1 := hR
  replace hP : va_P (dC, dI) vwCl (fl [(w_X5 ad (b1) cs u1), (w_X5 ad (b2) cs S2)]) H63 := by rw [← eu1]; exact hP
  replace hD : va_D A (fl [(w_X5 ad (b1) cs u1), (w_X5 ad (b2) cs S2)]) := by rw [← eu1]; exact hD
  exact W.vret hx hb hr (fun t ht hW => ⟨⟨(), rfl, trivial, by rw [ht]; exact hP, va_K.moved hW.alike hK, hD⟩, hS.F ht⟩) hS.2.2 dX5_copy_66
set_option maxHeartbeats 8000000 in
set_option maxRecDepth 100000 in
theorem k_X3_record (l : Launch) (dC : Nat → ClassId) (dI : Nat → Nat → Nat) (cs : Nat → ClassId) (ad : Nat → Nat) (b1 b2 : Nat) (sz : Nat) (S1 : T4) (S2 : T3) (u1 : T4) (hR : fX3_record S1 S2 = some u1) : Met l yX3_record wsX3_record ({ frames := 3, cells := 0, slots := 0, locals := 72 } : Room) (va_Pc [.ref (ad b1), .ref (ad b2)] (pW dC dI (tyL cs) (fl [(w_X3 ad (b1) cs S1), (w_X5 ad (b2) cs S2)]) sz)) (QV dC dI (tyL cs) (va_A (fl [(w_X3 ad (b1) cs S1), (w_X5 ad (b2) cs S2)]) sz) (fl [(w_X3 ad (b1) cs u1), (w_X5 ad (b2) cs S2)])) 0 0 (va_A (fl [(w_X3 ad (b1) cs S1), (w_X5 ad (b2) cs S2)]) sz) := by
  refine mt_of (own := RX3) (cc := cX3_record) (maxL := 3) (ret := none) (Qc := fun A => QV dC dI (tyL cs) A (fl [(w_X3 ad (b1) cs u1), (w_X5 ad (b2) cs S2)])) rfl (by decide) rfl (Nat.le_of_ble_eq_true rfl) (fun p e s m below meth c A ls hsz hx hb hr hts hown hlocks hml hA hK hP hD hS hl => ?_)
  subst hsz
  have hl : lv_has ls 3 [(0, .ref (ad b1)), (1, .ref (ad b2))] := hl
  have hF10 := hts (.fieldLink RX3 10 "DockedBikes$History" "states" "[LDockedBikes$Road;") (List.mem_of_getElem? (i := 3) rfl)
  have hF16 := hts (.fieldLink RX3 16 "DockedBikes$History" "size" "I") (List.mem_of_getElem? (i := 1) rfl)
  have hF20 := hts (.fieldLink RX3 20 "DockedBikes$History" "oldest" "I") (List.mem_of_getElem? (i := 2) rfl)
  have hinX3 : ∀ w ∈ wsX30, w ∈ wsX3_record := by decide +kernel
  have hB30 : ∀ (S1_30h : T4) (H : Heap) (locs : List Loc) (ls : Array Slot), fX3_record_30 S2 S1_30h = some u1 → va_P (dC, dI) vwCl (fl [(w_X3 ad (b1) cs S1_30h), (w_X5 ad (b2) cs S2)]) H → va_D A (fl [(w_X3 ad (b1) cs S1_30h), (w_X5 ad (b2) cs S2)]) → va_S A s.heap H locs → lv_has ls 3 [(0, .ref (ad b1)), (1, .ref (ad b2))] → W p l e (headSpec wsX3_record ({ frames := 3, cells := 0, slots := 0, locals := 72 } : Room)).room s m ([.ref (ad b1), .ref (ad b2)] : List Value).toArray below meth c H locs 0 0 (MQ below (QV dC dI (tyL cs) A (fl [(w_X3 ad (b1) cs u1), (w_X5 ad (b2) cs S2)])) ([.ref (ad b1), .ref (ad b2)] : List Value).toArray s 0 0 A) (F0 m 30 ls []) := by
    intro S1_30h H locs ls hR hP hD hS hl
    refine lv_aload_n hx hb dX3_record_30 rfl (lv_at hl 0 rfl) ?_
    refine va_get (D := (dC, dI)) (ci := 2) (v := .ref (ad (b1 + 1))) (C := RX3) (T := TX3) (N := 3) hx hb hts hinX3 hown hK hP 0 rfl rfl 1 (by decide) hF10 (fun _ h9 => h9) rfl dX3_record_31 ?_
    refine lv_aload_n hx hb dX3_record_34 rfl (lv_at hl 0 rfl) ?_
    refine va_get (D := (dC, dI)) (ci := 2) (v := .int (S1_30h 4 0 0 1)) (C := RX3) (T := TX3) (N := 3) hx hb hts hinX3 hown hK hP 0 rfl rfl 2 (by decide) hF20 (fun _ h9 => h9) rfl dX3_record_35 ?_
    refine lv_aload_n hx hb dX3_record_38 rfl (lv_at hl 0 rfl) ?_
    refine va_get (D := (dC, dI)) (ci := 2) (v := .int (S1_30h 4 0 0 0)) (C := RX3) (T := TX3) (N := 3) hx hb hts hinX3 hown hK hP 0 rfl rfl 0 (by decide) hF16 (fun _ h9 => h9) rfl dX3_record_39 ?_
    refine lv_iadd hx hb dX3_record_42 ?_
    refine lv_iconst (v := 4) hx hb dX3_record_43 ic_4 ?_
    refine lv_irem hx hb dX3_record_44 (by decide) ?_
    replace hR := gi_e hR
    obtain ⟨i45, hR⟩ := hR
    refine va_aldq hx hb hK hP 1 2 rfl rfl i45 dX3_record_45 ?_
    by_cases c45_0 : (((S1_30h 4 0 0 1) + (S1_30h 4 0 0 0)) - ((S1_30h 4 0 0 1) + (S1_30h 4 0 0 0)) / 4 * 4).toNatClampNeg = 0
    · replace hR := it_t hR c45_0
      rw [c45_0]
      refine lv_astore_n (lv' := [(2, .ref (ad (b1 + 2))), (0, .ref (ad b1)), (1, .ref (ad b2))]) hx hb dX3_record_46 rfl hl (Nat.le_of_ble_eq_true rfl) rfl (fun ls hl => ?_)
      refine lv_aload_n hx hb dX3_record_47 rfl (lv_at hl 0 rfl) ?_
      refine lv_ifnull hx hb dX3_record_48 ?_
      refine lv_aload_n hx hb dX3_record_51 rfl (lv_at hl 0 rfl) ?_
      refine lv_aload_n hx hb dX3_record_52 rfl (lv_at hl 2 rfl) ?_
      replace hR := bd_e hR
      obtain ⟨q53, gq53, hR⟩ := hR
      replace hP : va_P (dC, dI) vwCl (fl [[((ad b1), .inr (2, [.int (S1_30h 4 0 0 0), .ref (ad (b1 + 1)), .int (S1_30h 4 0 0 1)]))], [((ad (b1 + 1)), .inl (cs 2, 4, .inr (.inr (.inr (.inr (fun k => some (ad (b1 + 2 + 28 * k))))))))], (w_X5 ad (b1 + 2) cs (S1_30h 0)), (w_X5 ad (b1 + 30) cs (S1_30h 1)), (w_X5 ad (b1 + 58) cs (S1_30h 2)), (w_X5 ad (b1 + 86) cs (S1_30h 3)), (w_X5 ad (b2) cs S2)]) H := hP
      replace hD : va_D A (fl [[((ad b1), .inr (2, [.int (S1_30h 4 0 0 0), .ref (ad (b1 + 1)), .int (S1_30h 4 0 0 1)]))], [((ad (b1 + 1)), .inl (cs 2, 4, .inr (.inr (.inr (.inr (fun k => some (ad (b1 + 2 + 28 * k))))))))], (w_X5 ad (b1 + 2) cs (S1_30h 0)), (w_X5 ad (b1 + 30) cs (S1_30h 1)), (w_X5 ad (b1 + 58) cs (S1_30h 2)), (w_X5 ad (b1 + 86) cs (S1_30h 3)), (w_X5 ad (b2) cs S2)]) := hD
      refine cl_Vv (As := [.ref (ad b2)]) (rest := []) (L := [[((ad b1), .inr (2, [.int (S1_30h 4 0 0 0), .ref (ad (b1 + 1)), .int (S1_30h 4 0 0 1)]))], [((ad (b1 + 1)), .inl (cs 2, 4, .inr (.inr (.inr (.inr (fun k => some (ad (b1 + 2 + 28 * k))))))))], (w_X5 ad (b1 + 2) cs (S1_30h 0)), (w_X5 ad (b1 + 30) cs (S1_30h 1)), (w_X5 ad (b1 + 58) cs (S1_30h 2)), (w_X5 ad (b1 + 86) cs (S1_30h 3)), (w_X5 ad (b2) cs S2)]) (L' := [[((ad b1), .inr (2, [.int ((sU S1_30h 0 q53) 4 0 0 0), .ref (ad (b1 + 1)), .int ((sU S1_30h 0 q53) 4 0 0 1)]))], [((ad (b1 + 1)), .inl (cs 2, 4, .inr (.inr (.inr (.inr (fun k => some (ad (b1 + 2 + 28 * k))))))))], (w_X5 ad (b1 + 2) cs ((sU S1_30h 0 q53) 0)), (w_X5 ad (b1 + 30) cs ((sU S1_30h 0 q53) 1)), (w_X5 ad (b1 + 58) cs ((sU S1_30h 0 q53) 2)), (w_X5 ad (b1 + 86) cs ((sU S1_30h 0 q53) 3)), (w_X5 ad (b2) cs S2)]) (Wc := [(w_X5 ad (b1 + 2) cs (S1_30h 0)), (w_X5 ad (b2) cs S2)]) (Wc' := [(w_X5 ad (b1 + 2) cs q53), (w_X5 ad (b2) cs S2)]) (is := [2, 6]) (js := [0, 1, 3, 4, 5]) ⟨hx, hb, hml, hown, hts⟩ (k_X5_copy l dC dI cs ad (b1 + 2) (b2) H.size (S1_30h 0) S2 q53 gq53) (cwV 1 hts gX3_record_X5_copy rfl rfl rfl cd_X5_copy ⟨Nat.le_of_ble_eq_true rfl, Nat.le_of_ble_eq_true rfl⟩) hK hP hD hS hA ⟨rfl, rfl, rfl, rfl, rfl, rfl⟩ (jn_nd (is := [2, 6]) hD rfl rfl) 2 4 rfl rfl rfl rfl rfl hl.1 (Nat.le_of_ble_eq_true rfl) dX3_record_53 (fun H53 locs53 hP' hD' hS' => ?_)
      replace hS := hS'
      have hP' : va_P (dC, dI) vwCl (fl [(w_X3 ad (b1) cs (sU S1_30h 0 q53)), (w_X5 ad (b2) cs S2)]) H53 := hP'
      have hD' : va_D A (fl [(w_X3 ad (b1) cs (sU S1_30h 0 q53)), (w_X5 ad (b2) cs S2)]) := hD'
      replace hR := bn_e hR
      obtain ⟨S1_53, eS1_53, hR⟩ := hR
      replace hP : va_P (dC, dI) vwCl (fl [(w_X3 ad (b1) cs S1_53), (w_X5 ad (b2) cs S2)]) H53 := by rw [eS1_53]; exact hP'
      replace hD : va_D A (fl [(w_X3 ad (b1) cs S1_53), (w_X5 ad (b2) cs S2)]) := by rw [eS1_53]; exact hD'
      clear hP' hD' hS'
      refine lv_aload_n hx hb dX3_record_56 rfl (lv_at hl 1 rfl) ?_
      refine lv_dup hx hb dX3_record_57 rfl ?_
      refine va_get (D := (dC, dI)) (ci := 2) (v := .int (S1_53 4 0 0 0)) (C := RX3) (T := TX3) (N := 3) hx hb hts hinX3 hown hK hP 0 rfl rfl 0 (by decide) hF16 (fun _ h9 => h9) rfl dX3_record_58 ?_
      refine lv_iconst (v := 1) hx hb dX3_record_61 ic_1 ?_
      refine lv_iadd hx hb dX3_record_62 ?_
      refine va_put (D := (dC, dI)) (ci := 2) (v := .int ((S1_53 4 0 0 0) + 1)) (ty := .int) (C := RX3) (T := TX3) (N := 3) hx hb hts hinX3 tyX3 tyX3_ok nmX3 hown hK hP hD hS 0 rfl rfl 0 (by decide) hF16 (fun _ h9 => h9) rfl (by decide +kernel) rfl rfl (Nat.le_of_ble_eq_true rfl) dX3_record_63 (fun H63 locs63 hP' hD' hS' => ?_)
      replace hS := hS'
      have hP' : va_P (dC, dI) vwCl (fl [(w_X3 ad (b1) cs (sU S1_53 4 (sU (S1_53 4) 0 (sU ((S1_53 4) 0) 0 (sU (((S1_53 4) 0) 0) 0 ((S1_53 4 0 0 0) + 1)))))), (w_X5 ad (b2) cs S2)]) H63 := hP'
      have hD' : va_D A (fl [(w_X3 ad (b1) cs (sU S1_53 4 (sU (S1_53 4) 0 (sU ((S1_53 4) 0) 0 (sU (((S1_53 4) 0) 0) 0 ((S1_53 4 0 0 0) + 1)))))), (w_X5 ad (b2) cs S2)]) := hD'
      replace hR := bn_e hR
      obtain ⟨S1_63, eS1_63, hR⟩ := hR
      replace hP : va_P (dC, dI) vwCl (fl [(w_X3 ad (b1) cs S1_63), (w_X5 ad (b2) cs S2)]) H63 := by rw [eS1_63]; exact hP'
      replace hD : va_D A (fl [(w_X3 ad (b1) cs S1_63), (w_X5 ad (b2) cs S2)]) := by rw [eS1_63]; exact hD'
      clear hP' hD' hS'
      replace hR := Option.some.inj hR
      have eu1 := hR
      replace hP : va_P (dC, dI) vwCl (fl [(w_X3 ad (b1) cs u1), (w_X5 ad (b2) cs S2)]) H63 := by rw [← eu1]; exact hP
      replace hD : va_D A (fl [(w_X3 ad (b1) cs u1), (w_X5 ad (b2) cs S2)]) := by rw [← eu1]; exact hD
      exact W.vret hx hb hr (fun t ht hW => ⟨⟨(), rfl, trivial, by rw [ht]; exact hP, va_K.moved hW.alike hK, hD⟩, hS.F ht⟩) hS.2.2 dX3_record_66
    · replace hR := it_f hR c45_0
      by_cases c45_1 : (((S1_30h 4 0 0 1) + (S1_30h 4 0 0 0)) - ((S1_30h 4 0 0 1) + (S1_30h 4 0 0 0)) / 4 * 4).toNatClampNeg = 1
      · replace hR := it_t hR c45_1
        rw [c45_1]
        refine lv_astore_n (lv' := [(2, .ref (ad (b1 + 30))), (0, .ref (ad b1)), (1, .ref (ad b2))]) hx hb dX3_record_46 rfl hl (Nat.le_of_ble_eq_true rfl) rfl (fun ls hl => ?_)
        refine lv_aload_n hx hb dX3_record_47 rfl (lv_at hl 0 rfl) ?_
        refine lv_ifnull hx hb dX3_record_48 ?_
        refine lv_aload_n hx hb dX3_record_51 rfl (lv_at hl 0 rfl) ?_
        refine lv_aload_n hx hb dX3_record_52 rfl (lv_at hl 2 rfl) ?_
        replace hR := bd_e hR
        obtain ⟨q53, gq53, hR⟩ := hR
        replace hP : va_P (dC, dI) vwCl (fl [[((ad b1), .inr (2, [.int (S1_30h 4 0 0 0), .ref (ad (b1 + 1)), .int (S1_30h 4 0 0 1)]))], [((ad (b1 + 1)), .inl (cs 2, 4, .inr (.inr (.inr (.inr (fun k => some (ad (b1 + 2 + 28 * k))))))))], (w_X5 ad (b1 + 2) cs (S1_30h 0)), (w_X5 ad (b1 + 30) cs (S1_30h 1)), (w_X5 ad (b1 + 58) cs (S1_30h 2)), (w_X5 ad (b1 + 86) cs (S1_30h 3)), (w_X5 ad (b2) cs S2)]) H := hP
        replace hD : va_D A (fl [[((ad b1), .inr (2, [.int (S1_30h 4 0 0 0), .ref (ad (b1 + 1)), .int (S1_30h 4 0 0 1)]))], [((ad (b1 + 1)), .inl (cs 2, 4, .inr (.inr (.inr (.inr (fun k => some (ad (b1 + 2 + 28 * k))))))))], (w_X5 ad (b1 + 2) cs (S1_30h 0)), (w_X5 ad (b1 + 30) cs (S1_30h 1)), (w_X5 ad (b1 + 58) cs (S1_30h 2)), (w_X5 ad (b1 + 86) cs (S1_30h 3)), (w_X5 ad (b2) cs S2)]) := hD
        refine cl_Vv (As := [.ref (ad b2)]) (rest := []) (L := [[((ad b1), .inr (2, [.int (S1_30h 4 0 0 0), .ref (ad (b1 + 1)), .int (S1_30h 4 0 0 1)]))], [((ad (b1 + 1)), .inl (cs 2, 4, .inr (.inr (.inr (.inr (fun k => some (ad (b1 + 2 + 28 * k))))))))], (w_X5 ad (b1 + 2) cs (S1_30h 0)), (w_X5 ad (b1 + 30) cs (S1_30h 1)), (w_X5 ad (b1 + 58) cs (S1_30h 2)), (w_X5 ad (b1 + 86) cs (S1_30h 3)), (w_X5 ad (b2) cs S2)]) (L' := [[((ad b1), .inr (2, [.int ((sU S1_30h 1 q53) 4 0 0 0), .ref (ad (b1 + 1)), .int ((sU S1_30h 1 q53) 4 0 0 1)]))], [((ad (b1 + 1)), .inl (cs 2, 4, .inr (.inr (.inr (.inr (fun k => some (ad (b1 + 2 + 28 * k))))))))], (w_X5 ad (b1 + 2) cs ((sU S1_30h 1 q53) 0)), (w_X5 ad (b1 + 30) cs ((sU S1_30h 1 q53) 1)), (w_X5 ad (b1 + 58) cs ((sU S1_30h 1 q53) 2)), (w_X5 ad (b1 + 86) cs ((sU S1_30h 1 q53) 3)), (w_X5 ad (b2) cs S2)]) (Wc := [(w_X5 ad (b1 + 30) cs (S1_30h 1)), (w_X5 ad (b2) cs S2)]) (Wc' := [(w_X5 ad (b1 + 30) cs q53), (w_X5 ad (b2) cs S2)]) (is := [3, 6]) (js := [0, 1, 2, 4, 5]) ⟨hx, hb, hml, hown, hts⟩ (k_X5_copy l dC dI cs ad (b1 + 30) (b2) H.size (S1_30h 1) S2 q53 gq53) (cwV 1 hts gX3_record_X5_copy rfl rfl rfl cd_X5_copy ⟨Nat.le_of_ble_eq_true rfl, Nat.le_of_ble_eq_true rfl⟩) hK hP hD hS hA ⟨rfl, rfl, rfl, rfl, rfl, rfl⟩ (jn_nd (is := [3, 6]) hD rfl rfl) 30 4 rfl rfl rfl rfl rfl hl.1 (Nat.le_of_ble_eq_true rfl) dX3_record_53 (fun H53 locs53 hP' hD' hS' => ?_)
        replace hS := hS'
        have hP' : va_P (dC, dI) vwCl (fl [(w_X3 ad (b1) cs (sU S1_30h 1 q53)), (w_X5 ad (b2) cs S2)]) H53 := hP'
        have hD' : va_D A (fl [(w_X3 ad (b1) cs (sU S1_30h 1 q53)), (w_X5 ad (b2) cs S2)]) := hD'
        replace hR := bn_e hR
        obtain ⟨S1_53, eS1_53, hR⟩ := hR
        replace hP : va_P (dC, dI) vwCl (fl [(w_X3 ad (b1) cs S1_53), (w_X5 ad (b2) cs S2)]) H53 := by rw [eS1_53]; exact hP'
        replace hD : va_D A (fl [(w_X3 ad (b1) cs S1_53), (w_X5 ad (b2) cs S2)]) := by rw [eS1_53]; exact hD'
        clear hP' hD' hS'
        refine lv_aload_n hx hb dX3_record_56 rfl (lv_at hl 1 rfl) ?_
        refine lv_dup hx hb dX3_record_57 rfl ?_
        refine va_get (D := (dC, dI)) (ci := 2) (v := .int (S1_53 4 0 0 0)) (C := RX3) (T := TX3) (N := 3) hx hb hts hinX3 hown hK hP 0 rfl rfl 0 (by decide) hF16 (fun _ h9 => h9) rfl dX3_record_58 ?_
        refine lv_iconst (v := 1) hx hb dX3_record_61 ic_1 ?_
        refine lv_iadd hx hb dX3_record_62 ?_
        refine va_put (D := (dC, dI)) (ci := 2) (v := .int ((S1_53 4 0 0 0) + 1)) (ty := .int) (C := RX3) (T := TX3) (N := 3) hx hb hts hinX3 tyX3 tyX3_ok nmX3 hown hK hP hD hS 0 rfl rfl 0 (by decide) hF16 (fun _ h9 => h9) rfl (by decide +kernel) rfl rfl (Nat.le_of_ble_eq_true rfl) dX3_record_63 (fun H63 locs63 hP' hD' hS' => ?_)
        replace hS := hS'
        have hP' : va_P (dC, dI) vwCl (fl [(w_X3 ad (b1) cs (sU S1_53 4 (sU (S1_53 4) 0 (sU ((S1_53 4) 0) 0 (sU (((S1_53 4) 0) 0) 0 ((S1_53 4 0 0 0) + 1)))))), (w_X5 ad (b2) cs S2)]) H63 := hP'
        have hD' : va_D A (fl [(w_X3 ad (b1) cs (sU S1_53 4 (sU (S1_53 4) 0 (sU ((S1_53 4) 0) 0 (sU (((S1_53 4) 0) 0) 0 ((S1_53 4 0 0 0) + 1)))))), (w_X5 ad (b2) cs S2)]) := hD'
        replace hR := bn_e hR
        obtain ⟨S1_63, eS1_63, hR⟩ := hR
        replace hP : va_P (dC, dI) vwCl (fl [(w_X3 ad (b1) cs S1_63), (w_X5 ad (b2) cs S2)]) H63 := by rw [eS1_63]; exact hP'
        replace hD : va_D A (fl [(w_X3 ad (b1) cs S1_63), (w_X5 ad (b2) cs S2)]) := by rw [eS1_63]; exact hD'
        clear hP' hD' hS'
        replace hR := Option.some.inj hR
        have eu1 := hR
        replace hP : va_P (dC, dI) vwCl (fl [(w_X3 ad (b1) cs u1), (w_X5 ad (b2) cs S2)]) H63 := by rw [← eu1]; exact hP
        replace hD : va_D A (fl [(w_X3 ad (b1) cs u1), (w_X5 ad (b2) cs S2)]) := by rw [← eu1]; exact hD
        exact W.vret hx hb hr (fun t ht hW => ⟨⟨(), rfl, trivial, by rw [ht]; exact hP, va_K.moved hW.alike hK, hD⟩, hS.F ht⟩) hS.2.2 dX3_record_66
      · replace hR := it_f hR c45_1
        by_cases c45_2 : (((S1_30h 4 0 0 1) + (S1_30h 4 0 0 0)) - ((S1_30h 4 0 0 1) + (S1_30h 4 0 0 0)) / 4 * 4).toNatClampNeg = 2
        · replace hR := it_t hR c45_2
          rw [c45_2]
          refine lv_astore_n (lv' := [(2, .ref (ad (b1 + 58))), (0, .ref (ad b1)), (1, .ref (ad b2))]) hx hb dX3_record_46 rfl hl (Nat.le_of_ble_eq_true rfl) rfl (fun ls hl => ?_)
          refine lv_aload_n hx hb dX3_record_47 rfl (lv_at hl 0 rfl) ?_
          refine lv_ifnull hx hb dX3_record_48 ?_
          refine lv_aload_n hx hb dX3_record_51 rfl (lv_at hl 0 rfl) ?_
          refine lv_aload_n hx hb dX3_record_52 rfl (lv_at hl 2 rfl) ?_
          replace hR := bd_e hR
          obtain ⟨q53, gq53, hR⟩ := hR
          replace hP : va_P (dC, dI) vwCl (fl [[((ad b1), .inr (2, [.int (S1_30h 4 0 0 0), .ref (ad (b1 + 1)), .int (S1_30h 4 0 0 1)]))], [((ad (b1 + 1)), .inl (cs 2, 4, .inr (.inr (.inr (.inr (fun k => some (ad (b1 + 2 + 28 * k))))))))], (w_X5 ad (b1 + 2) cs (S1_30h 0)), (w_X5 ad (b1 + 30) cs (S1_30h 1)), (w_X5 ad (b1 + 58) cs (S1_30h 2)), (w_X5 ad (b1 + 86) cs (S1_30h 3)), (w_X5 ad (b2) cs S2)]) H := hP
          replace hD : va_D A (fl [[((ad b1), .inr (2, [.int (S1_30h 4 0 0 0), .ref (ad (b1 + 1)), .int (S1_30h 4 0 0 1)]))], [((ad (b1 + 1)), .inl (cs 2, 4, .inr (.inr (.inr (.inr (fun k => some (ad (b1 + 2 + 28 * k))))))))], (w_X5 ad (b1 + 2) cs (S1_30h 0)), (w_X5 ad (b1 + 30) cs (S1_30h 1)), (w_X5 ad (b1 + 58) cs (S1_30h 2)), (w_X5 ad (b1 + 86) cs (S1_30h 3)), (w_X5 ad (b2) cs S2)]) := hD
          refine cl_Vv (As := [.ref (ad b2)]) (rest := []) (L := [[((ad b1), .inr (2, [.int (S1_30h 4 0 0 0), .ref (ad (b1 + 1)), .int (S1_30h 4 0 0 1)]))], [((ad (b1 + 1)), .inl (cs 2, 4, .inr (.inr (.inr (.inr (fun k => some (ad (b1 + 2 + 28 * k))))))))], (w_X5 ad (b1 + 2) cs (S1_30h 0)), (w_X5 ad (b1 + 30) cs (S1_30h 1)), (w_X5 ad (b1 + 58) cs (S1_30h 2)), (w_X5 ad (b1 + 86) cs (S1_30h 3)), (w_X5 ad (b2) cs S2)]) (L' := [[((ad b1), .inr (2, [.int ((sU S1_30h 2 q53) 4 0 0 0), .ref (ad (b1 + 1)), .int ((sU S1_30h 2 q53) 4 0 0 1)]))], [((ad (b1 + 1)), .inl (cs 2, 4, .inr (.inr (.inr (.inr (fun k => some (ad (b1 + 2 + 28 * k))))))))], (w_X5 ad (b1 + 2) cs ((sU S1_30h 2 q53) 0)), (w_X5 ad (b1 + 30) cs ((sU S1_30h 2 q53) 1)), (w_X5 ad (b1 + 58) cs ((sU S1_30h 2 q53) 2)), (w_X5 ad (b1 + 86) cs ((sU S1_30h 2 q53) 3)), (w_X5 ad (b2) cs S2)]) (Wc := [(w_X5 ad (b1 + 58) cs (S1_30h 2)), (w_X5 ad (b2) cs S2)]) (Wc' := [(w_X5 ad (b1 + 58) cs q53), (w_X5 ad (b2) cs S2)]) (is := [4, 6]) (js := [0, 1, 2, 3, 5]) ⟨hx, hb, hml, hown, hts⟩ (k_X5_copy l dC dI cs ad (b1 + 58) (b2) H.size (S1_30h 2) S2 q53 gq53) (cwV 1 hts gX3_record_X5_copy rfl rfl rfl cd_X5_copy ⟨Nat.le_of_ble_eq_true rfl, Nat.le_of_ble_eq_true rfl⟩) hK hP hD hS hA ⟨rfl, rfl, rfl, rfl, rfl, rfl⟩ (jn_nd (is := [4, 6]) hD rfl rfl) 58 4 rfl rfl rfl rfl rfl hl.1 (Nat.le_of_ble_eq_true rfl) dX3_record_53 (fun H53 locs53 hP' hD' hS' => ?_)
          replace hS := hS'
          have hP' : va_P (dC, dI) vwCl (fl [(w_X3 ad (b1) cs (sU S1_30h 2 q53)), (w_X5 ad (b2) cs S2)]) H53 := hP'
          have hD' : va_D A (fl [(w_X3 ad (b1) cs (sU S1_30h 2 q53)), (w_X5 ad (b2) cs S2)]) := hD'
          replace hR := bn_e hR
          obtain ⟨S1_53, eS1_53, hR⟩ := hR
          replace hP : va_P (dC, dI) vwCl (fl [(w_X3 ad (b1) cs S1_53), (w_X5 ad (b2) cs S2)]) H53 := by rw [eS1_53]; exact hP'
          replace hD : va_D A (fl [(w_X3 ad (b1) cs S1_53), (w_X5 ad (b2) cs S2)]) := by rw [eS1_53]; exact hD'
          clear hP' hD' hS'
          refine lv_aload_n hx hb dX3_record_56 rfl (lv_at hl 1 rfl) ?_
          refine lv_dup hx hb dX3_record_57 rfl ?_
          refine va_get (D := (dC, dI)) (ci := 2) (v := .int (S1_53 4 0 0 0)) (C := RX3) (T := TX3) (N := 3) hx hb hts hinX3 hown hK hP 0 rfl rfl 0 (by decide) hF16 (fun _ h9 => h9) rfl dX3_record_58 ?_
          refine lv_iconst (v := 1) hx hb dX3_record_61 ic_1 ?_
          refine lv_iadd hx hb dX3_record_62 ?_
          refine va_put (D := (dC, dI)) (ci := 2) (v := .int ((S1_53 4 0 0 0) + 1)) (ty := .int) (C := RX3) (T := TX3) (N := 3) hx hb hts hinX3 tyX3 tyX3_ok nmX3 hown hK hP hD hS 0 rfl rfl 0 (by decide) hF16 (fun _ h9 => h9) rfl (by decide +kernel) rfl rfl (Nat.le_of_ble_eq_true rfl) dX3_record_63 (fun H63 locs63 hP' hD' hS' => ?_)
          replace hS := hS'
          have hP' : va_P (dC, dI) vwCl (fl [(w_X3 ad (b1) cs (sU S1_53 4 (sU (S1_53 4) 0 (sU ((S1_53 4) 0) 0 (sU (((S1_53 4) 0) 0) 0 ((S1_53 4 0 0 0) + 1)))))), (w_X5 ad (b2) cs S2)]) H63 := hP'
          have hD' : va_D A (fl [(w_X3 ad (b1) cs (sU S1_53 4 (sU (S1_53 4) 0 (sU ((S1_53 4) 0) 0 (sU (((S1_53 4) 0) 0) 0 ((S1_53 4 0 0 0) + 1)))))), (w_X5 ad (b2) cs S2)]) := hD'
          replace hR := bn_e hR
          obtain ⟨S1_63, eS1_63, hR⟩ := hR
          replace hP : va_P (dC, dI) vwCl (fl [(w_X3 ad (b1) cs S1_63), (w_X5 ad (b2) cs S2)]) H63 := by rw [eS1_63]; exact hP'
          replace hD : va_D A (fl [(w_X3 ad (b1) cs S1_63), (w_X5 ad (b2) cs S2)]) := by rw [eS1_63]; exact hD'
          clear hP' hD' hS'
          replace hR := Option.some.inj hR
          have eu1 := hR
          replace hP : va_P (dC, dI) vwCl (fl [(w_X3 ad (b1) cs u1), (w_X5 ad (b2) cs S2)]) H63 := by rw [← eu1]; exact hP
          replace hD : va_D A (fl [(w_X3 ad (b1) cs u1), (w_X5 ad (b2) cs S2)]) := by rw [← eu1]; exact hD
          exact W.vret hx hb hr (fun t ht hW => ⟨⟨(), rfl, trivial, by rw [ht]; exact hP, va_K.moved hW.alike hK, hD⟩, hS.F ht⟩) hS.2.2 dX3_record_66
        · replace hR := it_f hR c45_2
          have c45_3 : (((S1_30h 4 0 0 1) + (S1_30h 4 0 0 0)) - ((S1_30h 4 0 0 1) + (S1_30h 4 0 0 0)) / 4 * 4).toNatClampNeg = 3 := by have h9 := vp_lt i45; omega
          rw [c45_3]
          refine lv_astore_n (lv' := [(2, .ref (ad (b1 + 86))), (0, .ref (ad b1)), (1, .ref (ad b2))]) hx hb dX3_record_46 rfl hl (Nat.le_of_ble_eq_true rfl) rfl (fun ls hl => ?_)
          refine lv_aload_n hx hb dX3_record_47 rfl (lv_at hl 0 rfl) ?_
          refine lv_ifnull hx hb dX3_record_48 ?_
          refine lv_aload_n hx hb dX3_record_51 rfl (lv_at hl 0 rfl) ?_
          refine lv_aload_n hx hb dX3_record_52 rfl (lv_at hl 2 rfl) ?_
          replace hR := bd_e hR
          obtain ⟨q53, gq53, hR⟩ := hR
          replace hP : va_P (dC, dI) vwCl (fl [[((ad b1), .inr (2, [.int (S1_30h 4 0 0 0), .ref (ad (b1 + 1)), .int (S1_30h 4 0 0 1)]))], [((ad (b1 + 1)), .inl (cs 2, 4, .inr (.inr (.inr (.inr (fun k => some (ad (b1 + 2 + 28 * k))))))))], (w_X5 ad (b1 + 2) cs (S1_30h 0)), (w_X5 ad (b1 + 30) cs (S1_30h 1)), (w_X5 ad (b1 + 58) cs (S1_30h 2)), (w_X5 ad (b1 + 86) cs (S1_30h 3)), (w_X5 ad (b2) cs S2)]) H := hP
          replace hD : va_D A (fl [[((ad b1), .inr (2, [.int (S1_30h 4 0 0 0), .ref (ad (b1 + 1)), .int (S1_30h 4 0 0 1)]))], [((ad (b1 + 1)), .inl (cs 2, 4, .inr (.inr (.inr (.inr (fun k => some (ad (b1 + 2 + 28 * k))))))))], (w_X5 ad (b1 + 2) cs (S1_30h 0)), (w_X5 ad (b1 + 30) cs (S1_30h 1)), (w_X5 ad (b1 + 58) cs (S1_30h 2)), (w_X5 ad (b1 + 86) cs (S1_30h 3)), (w_X5 ad (b2) cs S2)]) := hD
          refine cl_Vv (As := [.ref (ad b2)]) (rest := []) (L := [[((ad b1), .inr (2, [.int (S1_30h 4 0 0 0), .ref (ad (b1 + 1)), .int (S1_30h 4 0 0 1)]))], [((ad (b1 + 1)), .inl (cs 2, 4, .inr (.inr (.inr (.inr (fun k => some (ad (b1 + 2 + 28 * k))))))))], (w_X5 ad (b1 + 2) cs (S1_30h 0)), (w_X5 ad (b1 + 30) cs (S1_30h 1)), (w_X5 ad (b1 + 58) cs (S1_30h 2)), (w_X5 ad (b1 + 86) cs (S1_30h 3)), (w_X5 ad (b2) cs S2)]) (L' := [[((ad b1), .inr (2, [.int ((sU S1_30h 3 q53) 4 0 0 0), .ref (ad (b1 + 1)), .int ((sU S1_30h 3 q53) 4 0 0 1)]))], [((ad (b1 + 1)), .inl (cs 2, 4, .inr (.inr (.inr (.inr (fun k => some (ad (b1 + 2 + 28 * k))))))))], (w_X5 ad (b1 + 2) cs ((sU S1_30h 3 q53) 0)), (w_X5 ad (b1 + 30) cs ((sU S1_30h 3 q53) 1)), (w_X5 ad (b1 + 58) cs ((sU S1_30h 3 q53) 2)), (w_X5 ad (b1 + 86) cs ((sU S1_30h 3 q53) 3)), (w_X5 ad (b2) cs S2)]) (Wc := [(w_X5 ad (b1 + 86) cs (S1_30h 3)), (w_X5 ad (b2) cs S2)]) (Wc' := [(w_X5 ad (b1 + 86) cs q53), (w_X5 ad (b2) cs S2)]) (is := [5, 6]) (js := [0, 1, 2, 3, 4]) ⟨hx, hb, hml, hown, hts⟩ (k_X5_copy l dC dI cs ad (b1 + 86) (b2) H.size (S1_30h 3) S2 q53 gq53) (cwV 1 hts gX3_record_X5_copy rfl rfl rfl cd_X5_copy ⟨Nat.le_of_ble_eq_true rfl, Nat.le_of_ble_eq_true rfl⟩) hK hP hD hS hA ⟨rfl, rfl, rfl, rfl, rfl, rfl⟩ (jn_nd (is := [5, 6]) hD rfl rfl) 86 4 rfl rfl rfl rfl rfl hl.1 (Nat.le_of_ble_eq_true rfl) dX3_record_53 (fun H53 locs53 hP' hD' hS' => ?_)
          replace hS := hS'
          have hP' : va_P (dC, dI) vwCl (fl [(w_X3 ad (b1) cs (sU S1_30h 3 q53)), (w_X5 ad (b2) cs S2)]) H53 := hP'
          have hD' : va_D A (fl [(w_X3 ad (b1) cs (sU S1_30h 3 q53)), (w_X5 ad (b2) cs S2)]) := hD'
          replace hR := bn_e hR
          obtain ⟨S1_53, eS1_53, hR⟩ := hR
          replace hP : va_P (dC, dI) vwCl (fl [(w_X3 ad (b1) cs S1_53), (w_X5 ad (b2) cs S2)]) H53 := by rw [eS1_53]; exact hP'
          replace hD : va_D A (fl [(w_X3 ad (b1) cs S1_53), (w_X5 ad (b2) cs S2)]) := by rw [eS1_53]; exact hD'
          clear hP' hD' hS'
          refine lv_aload_n hx hb dX3_record_56 rfl (lv_at hl 1 rfl) ?_
          refine lv_dup hx hb dX3_record_57 rfl ?_
          refine va_get (D := (dC, dI)) (ci := 2) (v := .int (S1_53 4 0 0 0)) (C := RX3) (T := TX3) (N := 3) hx hb hts hinX3 hown hK hP 0 rfl rfl 0 (by decide) hF16 (fun _ h9 => h9) rfl dX3_record_58 ?_
          refine lv_iconst (v := 1) hx hb dX3_record_61 ic_1 ?_
          refine lv_iadd hx hb dX3_record_62 ?_
          refine va_put (D := (dC, dI)) (ci := 2) (v := .int ((S1_53 4 0 0 0) + 1)) (ty := .int) (C := RX3) (T := TX3) (N := 3) hx hb hts hinX3 tyX3 tyX3_ok nmX3 hown hK hP hD hS 0 rfl rfl 0 (by decide) hF16 (fun _ h9 => h9) rfl (by decide +kernel) rfl rfl (Nat.le_of_ble_eq_true rfl) dX3_record_63 (fun H63 locs63 hP' hD' hS' => ?_)
          replace hS := hS'
          have hP' : va_P (dC, dI) vwCl (fl [(w_X3 ad (b1) cs (sU S1_53 4 (sU (S1_53 4) 0 (sU ((S1_53 4) 0) 0 (sU (((S1_53 4) 0) 0) 0 ((S1_53 4 0 0 0) + 1)))))), (w_X5 ad (b2) cs S2)]) H63 := hP'
          have hD' : va_D A (fl [(w_X3 ad (b1) cs (sU S1_53 4 (sU (S1_53 4) 0 (sU ((S1_53 4) 0) 0 (sU (((S1_53 4) 0) 0) 0 ((S1_53 4 0 0 0) + 1)))))), (w_X5 ad (b2) cs S2)]) := hD'
          replace hR := bn_e hR
          obtain ⟨S1_63, eS1_63, hR⟩ := hR
          replace hP : va_P (dC, dI) vwCl (fl [(w_X3 ad (b1) cs S1_63), (w_X5 ad (b2) cs S2)]) H63 := by rw [eS1_63]; exact hP'
          replace hD : va_D A (fl [(w_X3 ad (b1) cs S1_63), (w_X5 ad (b2) cs S2)]) := by rw [eS1_63]; exact hD'
          clear hP' hD' hS'
          replace hR := Option.some.inj hR
          have eu1 := hR
          replace hP : va_P (dC, dI) vwCl (fl [(w_X3 ad (b1) cs u1), (w_X5 ad (b2) cs S2)]) H63 := by rw [← eu1]; exact hP
          replace hD : va_D A (fl [(w_X3 ad (b1) cs u1), (w_X5 ad (b2) cs S2)]) := by rw [← eu1]; exact hD
          exact W.vret hx hb hr (fun t ht hW => ⟨⟨(), rfl, trivial, by rw [ht]; exact hP, va_K.moved hW.alike hK, hD⟩, hS.F ht⟩) hS.2.2 dX3_record_66
  refine lv_aload_n hx hb dX3_record_0 rfl (lv_at hl 0 rfl) ?_
  refine va_get (D := (dC, dI)) (ci := 2) (v := .int (S1 4 0 0 0)) (C := RX3) (T := TX3) (N := 3) hx hb hts hinX3 hown hK hP 0 rfl rfl 0 (by decide) hF16 (fun _ h9 => h9) rfl dX3_record_1 ?_
  refine lv_iconst (v := 4) hx hb dX3_record_4 ic_4 ?_
  refine lv_icmp_ne (tgt := 30) hx hb dX3_record_5 (by decide) (fun c5 => ?_) (fun c5 => ?_)
  · replace hR := it_f hR c5
    exact hB30 S1 s.heap _ ls hR hP hD hS (lv_sub hl [0, 1] rfl)
  · replace hR := it_t hR c5
    refine lv_aload_n hx hb dX3_record_8 rfl (lv_at hl 0 rfl) ?_
    refine lv_aload_n hx hb dX3_record_9 rfl (lv_at hl 0 rfl) ?_
    refine va_get (D := (dC, dI)) (ci := 2) (v := .int (S1 4 0 0 1)) (C := RX3) (T := TX3) (N := 3) hx hb hts hinX3 hown hK hP 0 rfl rfl 2 (by decide) hF20 (fun _ h9 => h9) rfl dX3_record_10 ?_
    refine lv_iconst (v := 1) hx hb dX3_record_13 ic_1 ?_
    refine lv_iadd hx hb dX3_record_14 ?_
    refine lv_iconst (v := 4) hx hb dX3_record_15 ic_4 ?_
    refine lv_irem hx hb dX3_record_16 (by decide) ?_
    refine va_put (D := (dC, dI)) (ci := 2) (v := .int (((S1 4 0 0 1) + 1) - ((S1 4 0 0 1) + 1) / 4 * 4)) (ty := .int) (C := RX3) (T := TX3) (N := 3) hx hb hts hinX3 tyX3 tyX3_ok nmX3 hown hK hP hD hS 0 rfl rfl 2 (by decide) hF20 (fun _ h9 => h9) rfl (by decide +kernel) rfl rfl (Nat.le_of_ble_eq_true rfl) dX3_record_17 (fun H17 locs17 hP' hD' hS' => ?_)
    replace hS := hS'
    have hP' : va_P (dC, dI) vwCl (fl [(w_X3 ad (b1) cs (sU S1 4 (sU (S1 4) 0 (sU ((S1 4) 0) 0 (sU (((S1 4) 0) 0) 1 (((S1 4 0 0 1) + 1) - ((S1 4 0 0 1) + 1) / 4 * 4)))))), (w_X5 ad (b2) cs S2)]) H17 := hP'
    have hD' : va_D A (fl [(w_X3 ad (b1) cs (sU S1 4 (sU (S1 4) 0 (sU ((S1 4) 0) 0 (sU (((S1 4) 0) 0) 1 (((S1 4 0 0 1) + 1) - ((S1 4 0 0 1) + 1) / 4 * 4)))))), (w_X5 ad (b2) cs S2)]) := hD'
    replace hR := bn_e hR
    obtain ⟨S1_17, eS1_17, hR⟩ := hR
    replace hP : va_P (dC, dI) vwCl (fl [(w_X3 ad (b1) cs S1_17), (w_X5 ad (b2) cs S2)]) H17 := by rw [eS1_17]; exact hP'
    replace hD : va_D A (fl [(w_X3 ad (b1) cs S1_17), (w_X5 ad (b2) cs S2)]) := by rw [eS1_17]; exact hD'
    clear hP' hD' hS'
    refine lv_aload_n hx hb dX3_record_20 rfl (lv_at hl 0 rfl) ?_
    refine lv_dup hx hb dX3_record_21 rfl ?_
    refine va_get (D := (dC, dI)) (ci := 2) (v := .int (S1_17 4 0 0 0)) (C := RX3) (T := TX3) (N := 3) hx hb hts hinX3 hown hK hP 0 rfl rfl 0 (by decide) hF16 (fun _ h9 => h9) rfl dX3_record_22 ?_
    refine lv_iconst (v := 1) hx hb dX3_record_25 ic_1 ?_
    refine lv_isub hx hb dX3_record_26 ?_
    refine va_put (D := (dC, dI)) (ci := 2) (v := .int ((S1_17 4 0 0 0) - 1)) (ty := .int) (C := RX3) (T := TX3) (N := 3) hx hb hts hinX3 tyX3 tyX3_ok nmX3 hown hK hP hD hS 0 rfl rfl 0 (by decide) hF16 (fun _ h9 => h9) rfl (by decide +kernel) rfl rfl (Nat.le_of_ble_eq_true rfl) dX3_record_27 (fun H27 locs27 hP' hD' hS' => ?_)
    replace hS := hS'
    have hP' : va_P (dC, dI) vwCl (fl [(w_X3 ad (b1) cs (sU S1_17 4 (sU (S1_17 4) 0 (sU ((S1_17 4) 0) 0 (sU (((S1_17 4) 0) 0) 0 ((S1_17 4 0 0 0) - 1)))))), (w_X5 ad (b2) cs S2)]) H27 := hP'
    have hD' : va_D A (fl [(w_X3 ad (b1) cs (sU S1_17 4 (sU (S1_17 4) 0 (sU ((S1_17 4) 0) 0 (sU (((S1_17 4) 0) 0) 0 ((S1_17 4 0 0 0) - 1)))))), (w_X5 ad (b2) cs S2)]) := hD'
    replace hR := bn_e hR
    obtain ⟨S1_27, eS1_27, hR⟩ := hR
    replace hP : va_P (dC, dI) vwCl (fl [(w_X3 ad (b1) cs S1_27), (w_X5 ad (b2) cs S2)]) H27 := by rw [eS1_27]; exact hP'
    replace hD : va_D A (fl [(w_X3 ad (b1) cs S1_27), (w_X5 ad (b2) cs S2)]) := by rw [eS1_27]; exact hD'
    clear hP' hD' hS'
    exact hB30 S1_27 H27 _ ls hR hP hD hS (lv_sub hl [0, 1] rfl)
set_option maxHeartbeats 8000000 in
set_option maxRecDepth 100000 in
theorem k_X3_takeLatest (l : Launch) (dC : Nat → ClassId) (dI : Nat → Nat → Nat) (cs : Nat → ClassId) (ad : Nat → Nat) (b1 b2 : Nat) (sz : Nat) (S1 : T4) (S2 : T3) (r : Int32) (u1 : T4) (u2 : T3) (hR : fX3_takeLatest S1 S2 = some (r, u1, u2)) : Met l yX3_takeLatest wsX3_takeLatest ({ frames := 3, cells := 0, slots := 0, locals := 72 } : Room) (va_Pc [.ref (ad b1), .ref (ad b2)] (pW dC dI (tyL cs) (fl [(w_X3 ad (b1) cs S1), (w_X5 ad (b2) cs S2)]) sz)) (QI dC dI (tyL cs) (va_A (fl [(w_X3 ad (b1) cs S1), (w_X5 ad (b2) cs S2)]) sz) (fl [(w_X3 ad (b1) cs u1), (w_X5 ad (b2) cs u2)]) r) 0 0 (va_A (fl [(w_X3 ad (b1) cs S1), (w_X5 ad (b2) cs S2)]) sz) := by
  refine mt_of (own := RX3) (cc := cX3_takeLatest) (maxL := 3) (ret := (some .boolean)) (Qc := fun A => QI dC dI (tyL cs) A (fl [(w_X3 ad (b1) cs u1), (w_X5 ad (b2) cs u2)]) r) rfl (by decide) rfl (Nat.le_of_ble_eq_true rfl) (fun p e s m below meth c A ls hsz hx hb hr hts hown hlocks hml hA hK hP hD hS hl => ?_)
  subst hsz
  have hl : lv_has ls 3 [(0, .ref (ad b1)), (1, .ref (ad b2))] := hl
  have hF10 := hts (.fieldLink RX3 10 "DockedBikes$History" "states" "[LDockedBikes$Road;") (List.mem_of_getElem? (i := 2) rfl)
  have hF16 := hts (.fieldLink RX3 16 "DockedBikes$History" "size" "I") (List.mem_of_getElem? (i := 1) rfl)
  have hF20 := hts (.fieldLink RX3 20 "DockedBikes$History" "oldest" "I") (List.mem_of_getElem? (i := 3) rfl)
  have hinX3 : ∀ w ∈ wsX30, w ∈ wsX3_takeLatest := by decide +kernel
  refine lv_aload_n hx hb dX3_takeLatest_0 rfl (lv_at hl 0 rfl) ?_
  refine va_get (D := (dC, dI)) (ci := 2) (v := .int (S1 4 0 0 0)) (C := RX3) (T := TX3) (N := 3) hx hb hts hinX3 hown hK hP 0 rfl rfl 0 (by decide) hF16 (fun _ h9 => h9) rfl dX3_takeLatest_1 ?_
  refine lv_if_ne (tgt := 9) hx hb dX3_takeLatest_4 (by decide) (fun c4 => ?_) (fun c4 => ?_)
  · replace hR := it_f hR c4
    refine lv_aload_n hx hb dX3_takeLatest_9 rfl (lv_at hl 0 rfl) ?_
    refine lv_dup hx hb dX3_takeLatest_10 rfl ?_
    refine va_get (D := (dC, dI)) (ci := 2) (v := .int (S1 4 0 0 0)) (C := RX3) (T := TX3) (N := 3) hx hb hts hinX3 hown hK hP 0 rfl rfl 0 (by decide) hF16 (fun _ h9 => h9) rfl dX3_takeLatest_11 ?_
    refine lv_iconst (v := 1) hx hb dX3_takeLatest_14 ic_1 ?_
    refine lv_isub hx hb dX3_takeLatest_15 ?_
    refine va_put (D := (dC, dI)) (ci := 2) (v := .int ((S1 4 0 0 0) - 1)) (ty := .int) (C := RX3) (T := TX3) (N := 3) hx hb hts hinX3 tyX3 tyX3_ok nmX3 hown hK hP hD hS 0 rfl rfl 0 (by decide) hF16 (fun _ h9 => h9) rfl (by decide +kernel) rfl rfl (Nat.le_of_ble_eq_true rfl) dX3_takeLatest_16 (fun H16 locs16 hP' hD' hS' => ?_)
    replace hS := hS'
    have hP' : va_P (dC, dI) vwCl (fl [(w_X3 ad (b1) cs (sU S1 4 (sU (S1 4) 0 (sU ((S1 4) 0) 0 (sU (((S1 4) 0) 0) 0 ((S1 4 0 0 0) - 1)))))), (w_X5 ad (b2) cs S2)]) H16 := hP'
    have hD' : va_D A (fl [(w_X3 ad (b1) cs (sU S1 4 (sU (S1 4) 0 (sU ((S1 4) 0) 0 (sU (((S1 4) 0) 0) 0 ((S1 4 0 0 0) - 1)))))), (w_X5 ad (b2) cs S2)]) := hD'
    replace hR := bn_e hR
    obtain ⟨S1_16, eS1_16, hR⟩ := hR
    replace hP : va_P (dC, dI) vwCl (fl [(w_X3 ad (b1) cs S1_16), (w_X5 ad (b2) cs S2)]) H16 := by rw [eS1_16]; exact hP'
    replace hD : va_D A (fl [(w_X3 ad (b1) cs S1_16), (w_X5 ad (b2) cs S2)]) := by rw [eS1_16]; exact hD'
    clear hP' hD' hS'
    refine lv_aload_n hx hb dX3_takeLatest_19 rfl (lv_at hl 0 rfl) ?_
    refine va_get (D := (dC, dI)) (ci := 2) (v := .ref (ad (b1 + 1))) (C := RX3) (T := TX3) (N := 3) hx hb hts hinX3 hown hK hP 0 rfl rfl 1 (by decide) hF10 (fun _ h9 => h9) rfl dX3_takeLatest_20 ?_
    refine lv_aload_n hx hb dX3_takeLatest_23 rfl (lv_at hl 0 rfl) ?_
    refine va_get (D := (dC, dI)) (ci := 2) (v := .int (S1_16 4 0 0 1)) (C := RX3) (T := TX3) (N := 3) hx hb hts hinX3 hown hK hP 0 rfl rfl 2 (by decide) hF20 (fun _ h9 => h9) rfl dX3_takeLatest_24 ?_
    refine lv_aload_n hx hb dX3_takeLatest_27 rfl (lv_at hl 0 rfl) ?_
    refine va_get (D := (dC, dI)) (ci := 2) (v := .int (S1_16 4 0 0 0)) (C := RX3) (T := TX3) (N := 3) hx hb hts hinX3 hown hK hP 0 rfl rfl 0 (by decide) hF16 (fun _ h9 => h9) rfl dX3_takeLatest_28 ?_
    refine lv_iadd hx hb dX3_takeLatest_31 ?_
    refine lv_iconst (v := 4) hx hb dX3_takeLatest_32 ic_4 ?_
    refine lv_irem hx hb dX3_takeLatest_33 (by decide) ?_
    replace hR := gi_e hR
    obtain ⟨i34, hR⟩ := hR
    refine va_aldq hx hb hK hP 1 2 rfl rfl i34 dX3_takeLatest_34 ?_
    by_cases c34_0 : (((S1_16 4 0 0 1) + (S1_16 4 0 0 0)) - ((S1_16 4 0 0 1) + (S1_16 4 0 0 0)) / 4 * 4).toNatClampNeg = 0
    · replace hR := it_t hR c34_0
      rw [c34_0]
      refine lv_astore_n (lv' := [(2, .ref (ad (b1 + 2))), (0, .ref (ad b1)), (1, .ref (ad b2))]) hx hb dX3_takeLatest_35 rfl hl (Nat.le_of_ble_eq_true rfl) rfl (fun ls hl => ?_)
      refine lv_aload_n hx hb dX3_takeLatest_36 rfl (lv_at hl 0 rfl) ?_
      refine lv_ifnull hx hb dX3_takeLatest_37 ?_
      refine lv_aload_n hx hb dX3_takeLatest_40 rfl (lv_at hl 2 rfl) ?_
      refine lv_aload_n hx hb dX3_takeLatest_41 rfl (lv_at hl 0 rfl) ?_
      replace hR := bd_e hR
      obtain ⟨q42, gq42, hR⟩ := hR
      replace hP : va_P (dC, dI) vwCl (fl [[((ad b1), .inr (2, [.int (S1_16 4 0 0 0), .ref (ad (b1 + 1)), .int (S1_16 4 0 0 1)]))], [((ad (b1 + 1)), .inl (cs 2, 4, .inr (.inr (.inr (.inr (fun k => some (ad (b1 + 2 + 28 * k))))))))], (w_X5 ad (b1 + 2) cs (S1_16 0)), (w_X5 ad (b1 + 30) cs (S1_16 1)), (w_X5 ad (b1 + 58) cs (S1_16 2)), (w_X5 ad (b1 + 86) cs (S1_16 3)), (w_X5 ad (b2) cs S2)]) H16 := hP
      replace hD : va_D A (fl [[((ad b1), .inr (2, [.int (S1_16 4 0 0 0), .ref (ad (b1 + 1)), .int (S1_16 4 0 0 1)]))], [((ad (b1 + 1)), .inl (cs 2, 4, .inr (.inr (.inr (.inr (fun k => some (ad (b1 + 2 + 28 * k))))))))], (w_X5 ad (b1 + 2) cs (S1_16 0)), (w_X5 ad (b1 + 30) cs (S1_16 1)), (w_X5 ad (b1 + 58) cs (S1_16 2)), (w_X5 ad (b1 + 86) cs (S1_16 3)), (w_X5 ad (b2) cs S2)]) := hD
      refine cl_Vv (As := [.ref (ad (b1 + 2))]) (rest := []) (L := [[((ad b1), .inr (2, [.int (S1_16 4 0 0 0), .ref (ad (b1 + 1)), .int (S1_16 4 0 0 1)]))], [((ad (b1 + 1)), .inl (cs 2, 4, .inr (.inr (.inr (.inr (fun k => some (ad (b1 + 2 + 28 * k))))))))], (w_X5 ad (b1 + 2) cs (S1_16 0)), (w_X5 ad (b1 + 30) cs (S1_16 1)), (w_X5 ad (b1 + 58) cs (S1_16 2)), (w_X5 ad (b1 + 86) cs (S1_16 3)), (w_X5 ad (b2) cs S2)]) (L' := [[((ad b1), .inr (2, [.int (S1_16 4 0 0 0), .ref (ad (b1 + 1)), .int (S1_16 4 0 0 1)]))], [((ad (b1 + 1)), .inl (cs 2, 4, .inr (.inr (.inr (.inr (fun k => some (ad (b1 + 2 + 28 * k))))))))], (w_X5 ad (b1 + 2) cs (S1_16 0)), (w_X5 ad (b1 + 30) cs (S1_16 1)), (w_X5 ad (b1 + 58) cs (S1_16 2)), (w_X5 ad (b1 + 86) cs (S1_16 3)), (w_X5 ad (b2) cs q42)]) (Wc := [(w_X5 ad (b2) cs S2), (w_X5 ad (b1 + 2) cs (S1_16 0))]) (Wc' := [(w_X5 ad (b2) cs q42), (w_X5 ad (b1 + 2) cs (S1_16 0))]) (is := [6, 2]) (js := [0, 1, 3, 4, 5]) ⟨hx, hb, hml, hown, hts⟩ (k_X5_copy l dC dI cs ad (b2) (b1 + 2) H16.size S2 (S1_16 0) q42 gq42) (cwV 1 hts gX3_takeLatest_X5_copy rfl rfl rfl cd_X5_copy ⟨Nat.le_of_ble_eq_true rfl, Nat.le_of_ble_eq_true rfl⟩) hK hP hD hS hA ⟨rfl, rfl, rfl, rfl, rfl, rfl⟩ (jn_nd (is := [6, 2]) hD rfl rfl) 114 4 rfl rfl rfl rfl rfl hl.1 (Nat.le_of_ble_eq_true rfl) dX3_takeLatest_42 (fun H42 locs42 hP' hD' hS' => ?_)
      replace hS := hS'
      replace hP : va_P (dC, dI) vwCl (fl [(w_X3 ad (b1) cs S1_16), (w_X5 ad (b2) cs q42)]) H42 := hP'
      replace hD : va_D A (fl [(w_X3 ad (b1) cs S1_16), (w_X5 ad (b2) cs q42)]) := hD'
      clear hP' hD' hS'
      refine lv_aload_n hx hb dX3_takeLatest_45 rfl (lv_at hl 0 rfl) ?_
      refine lv_ifnull hx hb dX3_takeLatest_46 ?_
      refine lv_iconst (v := 1) hx hb dX3_takeLatest_49 ic_1 ?_
      refine lv_goto (tgt := 54) hx hb dX3_takeLatest_50 (by decide) ?_
      replace hR := Option.some.inj hR
      obtain ⟨e9, hR⟩ := Prod.mk.inj hR
      obtain ⟨eu1, hR⟩ := Prod.mk.inj hR
      have eu2 := hR
      replace hP : va_P (dC, dI) vwCl (fl [(w_X3 ad (b1) cs u1), (w_X5 ad (b2) cs u2)]) H42 := by rw [← eu1, ← eu2]; exact hP
      replace hD : va_D A (fl [(w_X3 ad (b1) cs u1), (w_X5 ad (b2) cs u2)]) := by rw [← eu1, ← eu2]; exact hD
      exact W.zret (ty := .boolean) hx hb hr (by decide) (fun t ht hW => ⟨⟨_, (), rfl, e9, by rw [ht]; exact hP, va_K.moved hW.alike hK, hD⟩, hS.F ht⟩) hS.2.2 dX3_takeLatest_54
    · replace hR := it_f hR c34_0
      by_cases c34_1 : (((S1_16 4 0 0 1) + (S1_16 4 0 0 0)) - ((S1_16 4 0 0 1) + (S1_16 4 0 0 0)) / 4 * 4).toNatClampNeg = 1
      · replace hR := it_t hR c34_1
        rw [c34_1]
        refine lv_astore_n (lv' := [(2, .ref (ad (b1 + 30))), (0, .ref (ad b1)), (1, .ref (ad b2))]) hx hb dX3_takeLatest_35 rfl hl (Nat.le_of_ble_eq_true rfl) rfl (fun ls hl => ?_)
        refine lv_aload_n hx hb dX3_takeLatest_36 rfl (lv_at hl 0 rfl) ?_
        refine lv_ifnull hx hb dX3_takeLatest_37 ?_
        refine lv_aload_n hx hb dX3_takeLatest_40 rfl (lv_at hl 2 rfl) ?_
        refine lv_aload_n hx hb dX3_takeLatest_41 rfl (lv_at hl 0 rfl) ?_
        replace hR := bd_e hR
        obtain ⟨q42, gq42, hR⟩ := hR
        replace hP : va_P (dC, dI) vwCl (fl [[((ad b1), .inr (2, [.int (S1_16 4 0 0 0), .ref (ad (b1 + 1)), .int (S1_16 4 0 0 1)]))], [((ad (b1 + 1)), .inl (cs 2, 4, .inr (.inr (.inr (.inr (fun k => some (ad (b1 + 2 + 28 * k))))))))], (w_X5 ad (b1 + 2) cs (S1_16 0)), (w_X5 ad (b1 + 30) cs (S1_16 1)), (w_X5 ad (b1 + 58) cs (S1_16 2)), (w_X5 ad (b1 + 86) cs (S1_16 3)), (w_X5 ad (b2) cs S2)]) H16 := hP
        replace hD : va_D A (fl [[((ad b1), .inr (2, [.int (S1_16 4 0 0 0), .ref (ad (b1 + 1)), .int (S1_16 4 0 0 1)]))], [((ad (b1 + 1)), .inl (cs 2, 4, .inr (.inr (.inr (.inr (fun k => some (ad (b1 + 2 + 28 * k))))))))], (w_X5 ad (b1 + 2) cs (S1_16 0)), (w_X5 ad (b1 + 30) cs (S1_16 1)), (w_X5 ad (b1 + 58) cs (S1_16 2)), (w_X5 ad (b1 + 86) cs (S1_16 3)), (w_X5 ad (b2) cs S2)]) := hD
        refine cl_Vv (As := [.ref (ad (b1 + 30))]) (rest := []) (L := [[((ad b1), .inr (2, [.int (S1_16 4 0 0 0), .ref (ad (b1 + 1)), .int (S1_16 4 0 0 1)]))], [((ad (b1 + 1)), .inl (cs 2, 4, .inr (.inr (.inr (.inr (fun k => some (ad (b1 + 2 + 28 * k))))))))], (w_X5 ad (b1 + 2) cs (S1_16 0)), (w_X5 ad (b1 + 30) cs (S1_16 1)), (w_X5 ad (b1 + 58) cs (S1_16 2)), (w_X5 ad (b1 + 86) cs (S1_16 3)), (w_X5 ad (b2) cs S2)]) (L' := [[((ad b1), .inr (2, [.int (S1_16 4 0 0 0), .ref (ad (b1 + 1)), .int (S1_16 4 0 0 1)]))], [((ad (b1 + 1)), .inl (cs 2, 4, .inr (.inr (.inr (.inr (fun k => some (ad (b1 + 2 + 28 * k))))))))], (w_X5 ad (b1 + 2) cs (S1_16 0)), (w_X5 ad (b1 + 30) cs (S1_16 1)), (w_X5 ad (b1 + 58) cs (S1_16 2)), (w_X5 ad (b1 + 86) cs (S1_16 3)), (w_X5 ad (b2) cs q42)]) (Wc := [(w_X5 ad (b2) cs S2), (w_X5 ad (b1 + 30) cs (S1_16 1))]) (Wc' := [(w_X5 ad (b2) cs q42), (w_X5 ad (b1 + 30) cs (S1_16 1))]) (is := [6, 3]) (js := [0, 1, 2, 4, 5]) ⟨hx, hb, hml, hown, hts⟩ (k_X5_copy l dC dI cs ad (b2) (b1 + 30) H16.size S2 (S1_16 1) q42 gq42) (cwV 1 hts gX3_takeLatest_X5_copy rfl rfl rfl cd_X5_copy ⟨Nat.le_of_ble_eq_true rfl, Nat.le_of_ble_eq_true rfl⟩) hK hP hD hS hA ⟨rfl, rfl, rfl, rfl, rfl, rfl⟩ (jn_nd (is := [6, 3]) hD rfl rfl) 114 4 rfl rfl rfl rfl rfl hl.1 (Nat.le_of_ble_eq_true rfl) dX3_takeLatest_42 (fun H42 locs42 hP' hD' hS' => ?_)
        replace hS := hS'
        replace hP : va_P (dC, dI) vwCl (fl [(w_X3 ad (b1) cs S1_16), (w_X5 ad (b2) cs q42)]) H42 := hP'
        replace hD : va_D A (fl [(w_X3 ad (b1) cs S1_16), (w_X5 ad (b2) cs q42)]) := hD'
        clear hP' hD' hS'
        refine lv_aload_n hx hb dX3_takeLatest_45 rfl (lv_at hl 0 rfl) ?_
        refine lv_ifnull hx hb dX3_takeLatest_46 ?_
        refine lv_iconst (v := 1) hx hb dX3_takeLatest_49 ic_1 ?_
        refine lv_goto (tgt := 54) hx hb dX3_takeLatest_50 (by decide) ?_
        replace hR := Option.some.inj hR
        obtain ⟨e9, hR⟩ := Prod.mk.inj hR
        obtain ⟨eu1, hR⟩ := Prod.mk.inj hR
        have eu2 := hR
        replace hP : va_P (dC, dI) vwCl (fl [(w_X3 ad (b1) cs u1), (w_X5 ad (b2) cs u2)]) H42 := by rw [← eu1, ← eu2]; exact hP
        replace hD : va_D A (fl [(w_X3 ad (b1) cs u1), (w_X5 ad (b2) cs u2)]) := by rw [← eu1, ← eu2]; exact hD
        exact W.zret (ty := .boolean) hx hb hr (by decide) (fun t ht hW => ⟨⟨_, (), rfl, e9, by rw [ht]; exact hP, va_K.moved hW.alike hK, hD⟩, hS.F ht⟩) hS.2.2 dX3_takeLatest_54
      · replace hR := it_f hR c34_1
        by_cases c34_2 : (((S1_16 4 0 0 1) + (S1_16 4 0 0 0)) - ((S1_16 4 0 0 1) + (S1_16 4 0 0 0)) / 4 * 4).toNatClampNeg = 2
        · replace hR := it_t hR c34_2
          rw [c34_2]
          refine lv_astore_n (lv' := [(2, .ref (ad (b1 + 58))), (0, .ref (ad b1)), (1, .ref (ad b2))]) hx hb dX3_takeLatest_35 rfl hl (Nat.le_of_ble_eq_true rfl) rfl (fun ls hl => ?_)
          refine lv_aload_n hx hb dX3_takeLatest_36 rfl (lv_at hl 0 rfl) ?_
          refine lv_ifnull hx hb dX3_takeLatest_37 ?_
          refine lv_aload_n hx hb dX3_takeLatest_40 rfl (lv_at hl 2 rfl) ?_
          refine lv_aload_n hx hb dX3_takeLatest_41 rfl (lv_at hl 0 rfl) ?_
          replace hR := bd_e hR
          obtain ⟨q42, gq42, hR⟩ := hR
          replace hP : va_P (dC, dI) vwCl (fl [[((ad b1), .inr (2, [.int (S1_16 4 0 0 0), .ref (ad (b1 + 1)), .int (S1_16 4 0 0 1)]))], [((ad (b1 + 1)), .inl (cs 2, 4, .inr (.inr (.inr (.inr (fun k => some (ad (b1 + 2 + 28 * k))))))))], (w_X5 ad (b1 + 2) cs (S1_16 0)), (w_X5 ad (b1 + 30) cs (S1_16 1)), (w_X5 ad (b1 + 58) cs (S1_16 2)), (w_X5 ad (b1 + 86) cs (S1_16 3)), (w_X5 ad (b2) cs S2)]) H16 := hP
          replace hD : va_D A (fl [[((ad b1), .inr (2, [.int (S1_16 4 0 0 0), .ref (ad (b1 + 1)), .int (S1_16 4 0 0 1)]))], [((ad (b1 + 1)), .inl (cs 2, 4, .inr (.inr (.inr (.inr (fun k => some (ad (b1 + 2 + 28 * k))))))))], (w_X5 ad (b1 + 2) cs (S1_16 0)), (w_X5 ad (b1 + 30) cs (S1_16 1)), (w_X5 ad (b1 + 58) cs (S1_16 2)), (w_X5 ad (b1 + 86) cs (S1_16 3)), (w_X5 ad (b2) cs S2)]) := hD
          refine cl_Vv (As := [.ref (ad (b1 + 58))]) (rest := []) (L := [[((ad b1), .inr (2, [.int (S1_16 4 0 0 0), .ref (ad (b1 + 1)), .int (S1_16 4 0 0 1)]))], [((ad (b1 + 1)), .inl (cs 2, 4, .inr (.inr (.inr (.inr (fun k => some (ad (b1 + 2 + 28 * k))))))))], (w_X5 ad (b1 + 2) cs (S1_16 0)), (w_X5 ad (b1 + 30) cs (S1_16 1)), (w_X5 ad (b1 + 58) cs (S1_16 2)), (w_X5 ad (b1 + 86) cs (S1_16 3)), (w_X5 ad (b2) cs S2)]) (L' := [[((ad b1), .inr (2, [.int (S1_16 4 0 0 0), .ref (ad (b1 + 1)), .int (S1_16 4 0 0 1)]))], [((ad (b1 + 1)), .inl (cs 2, 4, .inr (.inr (.inr (.inr (fun k => some (ad (b1 + 2 + 28 * k))))))))], (w_X5 ad (b1 + 2) cs (S1_16 0)), (w_X5 ad (b1 + 30) cs (S1_16 1)), (w_X5 ad (b1 + 58) cs (S1_16 2)), (w_X5 ad (b1 + 86) cs (S1_16 3)), (w_X5 ad (b2) cs q42)]) (Wc := [(w_X5 ad (b2) cs S2), (w_X5 ad (b1 + 58) cs (S1_16 2))]) (Wc' := [(w_X5 ad (b2) cs q42), (w_X5 ad (b1 + 58) cs (S1_16 2))]) (is := [6, 4]) (js := [0, 1, 2, 3, 5]) ⟨hx, hb, hml, hown, hts⟩ (k_X5_copy l dC dI cs ad (b2) (b1 + 58) H16.size S2 (S1_16 2) q42 gq42) (cwV 1 hts gX3_takeLatest_X5_copy rfl rfl rfl cd_X5_copy ⟨Nat.le_of_ble_eq_true rfl, Nat.le_of_ble_eq_true rfl⟩) hK hP hD hS hA ⟨rfl, rfl, rfl, rfl, rfl, rfl⟩ (jn_nd (is := [6, 4]) hD rfl rfl) 114 4 rfl rfl rfl rfl rfl hl.1 (Nat.le_of_ble_eq_true rfl) dX3_takeLatest_42 (fun H42 locs42 hP' hD' hS' => ?_)
          replace hS := hS'
          replace hP : va_P (dC, dI) vwCl (fl [(w_X3 ad (b1) cs S1_16), (w_X5 ad (b2) cs q42)]) H42 := hP'
          replace hD : va_D A (fl [(w_X3 ad (b1) cs S1_16), (w_X5 ad (b2) cs q42)]) := hD'
          clear hP' hD' hS'
          refine lv_aload_n hx hb dX3_takeLatest_45 rfl (lv_at hl 0 rfl) ?_
          refine lv_ifnull hx hb dX3_takeLatest_46 ?_
          refine lv_iconst (v := 1) hx hb dX3_takeLatest_49 ic_1 ?_
          refine lv_goto (tgt := 54) hx hb dX3_takeLatest_50 (by decide) ?_
          replace hR := Option.some.inj hR
          obtain ⟨e9, hR⟩ := Prod.mk.inj hR
          obtain ⟨eu1, hR⟩ := Prod.mk.inj hR
          have eu2 := hR
          replace hP : va_P (dC, dI) vwCl (fl [(w_X3 ad (b1) cs u1), (w_X5 ad (b2) cs u2)]) H42 := by rw [← eu1, ← eu2]; exact hP
          replace hD : va_D A (fl [(w_X3 ad (b1) cs u1), (w_X5 ad (b2) cs u2)]) := by rw [← eu1, ← eu2]; exact hD
          exact W.zret (ty := .boolean) hx hb hr (by decide) (fun t ht hW => ⟨⟨_, (), rfl, e9, by rw [ht]; exact hP, va_K.moved hW.alike hK, hD⟩, hS.F ht⟩) hS.2.2 dX3_takeLatest_54
        · replace hR := it_f hR c34_2
          have c34_3 : (((S1_16 4 0 0 1) + (S1_16 4 0 0 0)) - ((S1_16 4 0 0 1) + (S1_16 4 0 0 0)) / 4 * 4).toNatClampNeg = 3 := by have h9 := vp_lt i34; omega
          rw [c34_3]
          refine lv_astore_n (lv' := [(2, .ref (ad (b1 + 86))), (0, .ref (ad b1)), (1, .ref (ad b2))]) hx hb dX3_takeLatest_35 rfl hl (Nat.le_of_ble_eq_true rfl) rfl (fun ls hl => ?_)
          refine lv_aload_n hx hb dX3_takeLatest_36 rfl (lv_at hl 0 rfl) ?_
          refine lv_ifnull hx hb dX3_takeLatest_37 ?_
          refine lv_aload_n hx hb dX3_takeLatest_40 rfl (lv_at hl 2 rfl) ?_
          refine lv_aload_n hx hb dX3_takeLatest_41 rfl (lv_at hl 0 rfl) ?_
          replace hR := bd_e hR
          obtain ⟨q42, gq42, hR⟩ := hR
          replace hP : va_P (dC, dI) vwCl (fl [[((ad b1), .inr (2, [.int (S1_16 4 0 0 0), .ref (ad (b1 + 1)), .int (S1_16 4 0 0 1)]))], [((ad (b1 + 1)), .inl (cs 2, 4, .inr (.inr (.inr (.inr (fun k => some (ad (b1 + 2 + 28 * k))))))))], (w_X5 ad (b1 + 2) cs (S1_16 0)), (w_X5 ad (b1 + 30) cs (S1_16 1)), (w_X5 ad (b1 + 58) cs (S1_16 2)), (w_X5 ad (b1 + 86) cs (S1_16 3)), (w_X5 ad (b2) cs S2)]) H16 := hP
          replace hD : va_D A (fl [[((ad b1), .inr (2, [.int (S1_16 4 0 0 0), .ref (ad (b1 + 1)), .int (S1_16 4 0 0 1)]))], [((ad (b1 + 1)), .inl (cs 2, 4, .inr (.inr (.inr (.inr (fun k => some (ad (b1 + 2 + 28 * k))))))))], (w_X5 ad (b1 + 2) cs (S1_16 0)), (w_X5 ad (b1 + 30) cs (S1_16 1)), (w_X5 ad (b1 + 58) cs (S1_16 2)), (w_X5 ad (b1 + 86) cs (S1_16 3)), (w_X5 ad (b2) cs S2)]) := hD
          refine cl_Vv (As := [.ref (ad (b1 + 86))]) (rest := []) (L := [[((ad b1), .inr (2, [.int (S1_16 4 0 0 0), .ref (ad (b1 + 1)), .int (S1_16 4 0 0 1)]))], [((ad (b1 + 1)), .inl (cs 2, 4, .inr (.inr (.inr (.inr (fun k => some (ad (b1 + 2 + 28 * k))))))))], (w_X5 ad (b1 + 2) cs (S1_16 0)), (w_X5 ad (b1 + 30) cs (S1_16 1)), (w_X5 ad (b1 + 58) cs (S1_16 2)), (w_X5 ad (b1 + 86) cs (S1_16 3)), (w_X5 ad (b2) cs S2)]) (L' := [[((ad b1), .inr (2, [.int (S1_16 4 0 0 0), .ref (ad (b1 + 1)), .int (S1_16 4 0 0 1)]))], [((ad (b1 + 1)), .inl (cs 2, 4, .inr (.inr (.inr (.inr (fun k => some (ad (b1 + 2 + 28 * k))))))))], (w_X5 ad (b1 + 2) cs (S1_16 0)), (w_X5 ad (b1 + 30) cs (S1_16 1)), (w_X5 ad (b1 + 58) cs (S1_16 2)), (w_X5 ad (b1 + 86) cs (S1_16 3)), (w_X5 ad (b2) cs q42)]) (Wc := [(w_X5 ad (b2) cs S2), (w_X5 ad (b1 + 86) cs (S1_16 3))]) (Wc' := [(w_X5 ad (b2) cs q42), (w_X5 ad (b1 + 86) cs (S1_16 3))]) (is := [6, 5]) (js := [0, 1, 2, 3, 4]) ⟨hx, hb, hml, hown, hts⟩ (k_X5_copy l dC dI cs ad (b2) (b1 + 86) H16.size S2 (S1_16 3) q42 gq42) (cwV 1 hts gX3_takeLatest_X5_copy rfl rfl rfl cd_X5_copy ⟨Nat.le_of_ble_eq_true rfl, Nat.le_of_ble_eq_true rfl⟩) hK hP hD hS hA ⟨rfl, rfl, rfl, rfl, rfl, rfl⟩ (jn_nd (is := [6, 5]) hD rfl rfl) 114 4 rfl rfl rfl rfl rfl hl.1 (Nat.le_of_ble_eq_true rfl) dX3_takeLatest_42 (fun H42 locs42 hP' hD' hS' => ?_)
          replace hS := hS'
          replace hP : va_P (dC, dI) vwCl (fl [(w_X3 ad (b1) cs S1_16), (w_X5 ad (b2) cs q42)]) H42 := hP'
          replace hD : va_D A (fl [(w_X3 ad (b1) cs S1_16), (w_X5 ad (b2) cs q42)]) := hD'
          clear hP' hD' hS'
          refine lv_aload_n hx hb dX3_takeLatest_45 rfl (lv_at hl 0 rfl) ?_
          refine lv_ifnull hx hb dX3_takeLatest_46 ?_
          refine lv_iconst (v := 1) hx hb dX3_takeLatest_49 ic_1 ?_
          refine lv_goto (tgt := 54) hx hb dX3_takeLatest_50 (by decide) ?_
          replace hR := Option.some.inj hR
          obtain ⟨e9, hR⟩ := Prod.mk.inj hR
          obtain ⟨eu1, hR⟩ := Prod.mk.inj hR
          have eu2 := hR
          replace hP : va_P (dC, dI) vwCl (fl [(w_X3 ad (b1) cs u1), (w_X5 ad (b2) cs u2)]) H42 := by rw [← eu1, ← eu2]; exact hP
          replace hD : va_D A (fl [(w_X3 ad (b1) cs u1), (w_X5 ad (b2) cs u2)]) := by rw [← eu1, ← eu2]; exact hD
          exact W.zret (ty := .boolean) hx hb hr (by decide) (fun t ht hW => ⟨⟨_, (), rfl, e9, by rw [ht]; exact hP, va_K.moved hW.alike hK, hD⟩, hS.F ht⟩) hS.2.2 dX3_takeLatest_54
  · replace hR := it_t hR c4
    refine lv_iconst (v := 0) hx hb dX3_takeLatest_7 ic_0 ?_
    replace hR := Option.some.inj hR
    obtain ⟨e9, hR⟩ := Prod.mk.inj hR
    obtain ⟨eu1, hR⟩ := Prod.mk.inj hR
    have eu2 := hR
    replace hP : va_P (dC, dI) vwCl (fl [(w_X3 ad (b1) cs u1), (w_X5 ad (b2) cs u2)]) s.heap := by rw [← eu1, ← eu2]; exact hP
    replace hD : va_D A (fl [(w_X3 ad (b1) cs u1), (w_X5 ad (b2) cs u2)]) := by rw [← eu1, ← eu2]; exact hD
    exact W.zret (ty := .boolean) hx hb hr (by decide) (fun t ht hW => ⟨⟨_, (), rfl, e9, by rw [ht]; exact hP, va_K.moved hW.alike hK, hD⟩, hS.F ht⟩) hS.2.2 dX3_takeLatest_8
set_option maxHeartbeats 8000000 in
set_option maxRecDepth 100000 in
theorem k_X4_has (l : Launch) (dC : Nat → ClassId) (dI : Nat → Nat → Nat) (cs : Nat → ClassId) (ad : Nat → Nat) (b1 : Nat) (sz : Nat) (S1 : T2) (p1 : Int32) (r : Int32) (hR : fX4_has S1 p1 = some r) : Met l yX4_has wsX4_has ({ frames := 0, cells := 0, slots := 0, locals := 0 } : Room) (va_Pc [.ref (ad b1), .int p1] (pW dC dI (tyL cs) (fl [(w_X4 ad (b1) cs S1)]) sz)) (QI dC dI (tyL cs) (va_A (fl [(w_X4 ad (b1) cs S1)]) sz) (fl [(w_X4 ad (b1) cs S1)]) r) 0 0 (va_A (fl [(w_X4 ad (b1) cs S1)]) sz) := by
  refine mt_of (own := RX4) (cc := cX4_has) (maxL := 2) (ret := (some .boolean)) (Qc := fun A => QI dC dI (tyL cs) A (fl [(w_X4 ad (b1) cs S1)]) r) rfl (by decide) rfl (Nat.le_of_ble_eq_true rfl) (fun p e s m below meth c A ls hsz hx hb hr hts hown hlocks hml hA hK hP hD hS hl => ?_)
  subst hsz
  have hl : lv_has ls 2 [(0, .ref (ad b1)), (1, .int p1)] := hl
  have hF39 := hts (.fieldLink RX4 39 "DockedBikes$Riders" "size" "I") (List.mem_of_getElem? (i := 1) rfl)
  have hinX4 : ∀ w ∈ wsX40, w ∈ wsX4_has := by decide +kernel
  refine lv_iload_n hx hb dX4_has_0 rfl (lv_at hl 1 rfl) ?_
  refine lv_if_lt (tgt := 16) hx hb dX4_has_1 (by decide) (fun c1 => ?_) (fun c1 => ?_)
  · replace hR := it_t hR c1
    refine lv_iconst (v := 0) hx hb dX4_has_16 ic_0 ?_
    replace hR := Option.some.inj hR
    have e9 := hR
    exact W.zret (ty := .boolean) hx hb hr (by decide) (fun t ht hW => ⟨⟨_, (), rfl, e9, by rw [ht]; exact hP, va_K.moved hW.alike hK, hD⟩, hS.F ht⟩) hS.2.2 dX4_has_17
  · replace hR := it_f hR c1
    refine lv_iload_n hx hb dX4_has_4 rfl (lv_at hl 1 rfl) ?_
    refine lv_aload_n hx hb dX4_has_5 rfl (lv_at hl 0 rfl) ?_
    refine va_get (D := (dC, dI)) (ci := 3) (v := .int (S1 9 0)) (C := RX4) (T := TX4) (N := 10) hx hb hts hinX4 hown hK hP 0 rfl rfl 0 (by decide) hF39 (fun _ h9 => h9) rfl dX4_has_6 ?_
    refine lv_icmp_ge (tgt := 16) hx hb dX4_has_9 (by decide) (fun c9 => ?_) (fun c9 => ?_)
    · replace hR := it_t hR c9
      refine lv_iconst (v := 0) hx hb dX4_has_16 ic_0 ?_
      replace hR := Option.some.inj hR
      have e9 := hR
      exact W.zret (ty := .boolean) hx hb hr (by decide) (fun t ht hW => ⟨⟨_, (), rfl, e9, by rw [ht]; exact hP, va_K.moved hW.alike hK, hD⟩, hS.F ht⟩) hS.2.2 dX4_has_17
    · replace hR := it_f hR c9
      refine lv_iconst (v := 1) hx hb dX4_has_12 ic_1 ?_
      refine lv_goto (tgt := 17) hx hb dX4_has_13 (by decide) ?_
      replace hR := Option.some.inj hR
      have e9 := hR
      exact W.zret (ty := .boolean) hx hb hr (by decide) (fun t ht hW => ⟨⟨_, (), rfl, e9, by rw [ht]; exact hP, va_K.moved hW.alike hK, hD⟩, hS.F ht⟩) hS.2.2 dX4_has_17
set_option maxHeartbeats 8000000 in
set_option maxRecDepth 100000 in
theorem k_X4_add (l : Launch) (dC : Nat → ClassId) (dI : Nat → Nat → Nat) (cs : Nat → ClassId) (ad : Nat → Nat) (b1 : Nat) (sz : Nat) (S1 : T2) (r : Int32) (u1 : T2) (hR : fX4_add S1 = some (r, u1)) : Met l yX4_add wsX4_add ({ frames := 0, cells := 0, slots := 0, locals := 0 } : Room) (va_Pc [.ref (ad b1)] (pW dC dI (tyL cs) (fl [(w_X4 ad (b1) cs S1)]) sz)) (QI dC dI (tyL cs) (va_A (fl [(w_X4 ad (b1) cs S1)]) sz) (fl [(w_X4 ad (b1) cs u1)]) r) 0 0 (va_A (fl [(w_X4 ad (b1) cs S1)]) sz) := by
  refine mt_of (own := RX4) (cc := cX4_add) (maxL := 1) (ret := (some .int)) (Qc := fun A => QI dC dI (tyL cs) A (fl [(w_X4 ad (b1) cs u1)]) r) rfl (by decide) rfl (Nat.le_of_ble_eq_true rfl) (fun p e s m below meth c A ls hsz hx hb hr hts hown hlocks hml hA hK hP hD hS hl => ?_)
  subst hsz
  have hl : lv_has ls 1 [(0, .ref (ad b1))] := hl
  have hF24 := hts (.fieldLink RX4 24 "DockedBikes$Riders" "bicycle" "[I") (List.mem_of_getElem? (i := 2) rfl)
  have hF39 := hts (.fieldLink RX4 39 "DockedBikes$Riders" "size" "I") (List.mem_of_getElem? (i := 1) rfl)
  have hinX4 : ∀ w ∈ wsX40, w ∈ wsX4_add := by decide +kernel
  refine lv_aload_n hx hb dX4_add_0 rfl (lv_at hl 0 rfl) ?_
  refine va_get (D := (dC, dI)) (ci := 3) (v := .int (S1 9 0)) (C := RX4) (T := TX4) (N := 10) hx hb hts hinX4 hown hK hP 0 rfl rfl 0 (by decide) hF39 (fun _ h9 => h9) rfl dX4_add_1 ?_
  refine lv_bipush (v := 8) hx hb dX4_add_4 bp_8 ?_
  refine lv_icmp_lt (tgt := 12) hx hb dX4_add_6 (by decide) (fun c6 => ?_) (fun c6 => ?_)
  · replace hR := it_t hR c6
    refine lv_aload_n hx hb dX4_add_12 rfl (lv_at hl 0 rfl) ?_
    refine va_get (D := (dC, dI)) (ci := 3) (v := .ref (ad (b1 + 5))) (C := RX4) (T := TX4) (N := 10) hx hb hts hinX4 hown hK hP 0 rfl rfl 5 (by decide) hF24 (fun _ h9 => h9) rfl dX4_add_13 ?_
    refine lv_aload_n hx hb dX4_add_16 rfl (lv_at hl 0 rfl) ?_
    refine va_get (D := (dC, dI)) (ci := 3) (v := .int (S1 9 0)) (C := RX4) (T := TX4) (N := 10) hx hb hts hinX4 hown hK hP 0 rfl rfl 0 (by decide) hF39 (fun _ h9 => h9) rfl dX4_add_17 ?_
    refine lv_iconst (v := (-1)) hx hb dX4_add_20 ic_m1 ?_
    replace hR := gi_e hR
    obtain ⟨i21, hR⟩ := hR
    refine va_iast hx hb hK hP hD hS 5 0 rfl rfl i21 dX4_add_21 (fun H21 locs21 hP' hD' hS' => ?_)
    replace hS := hS'
    have hP' : va_P (dC, dI) vwCl (fl [(w_X4 ad (b1) cs (sU S1 4 (sU (S1 4) (S1 9 0).toNatClampNeg (-1))))]) H21 := hP'
    have hD' : va_D A (fl [(w_X4 ad (b1) cs (sU S1 4 (sU (S1 4) (S1 9 0).toNatClampNeg (-1))))]) := hD'
    replace hR := bn_e hR
    obtain ⟨S1_21, eS1_21, hR⟩ := hR
    replace hP : va_P (dC, dI) vwCl (fl [(w_X4 ad (b1) cs S1_21)]) H21 := by rw [eS1_21]; exact hP'
    replace hD : va_D A (fl [(w_X4 ad (b1) cs S1_21)]) := by rw [eS1_21]; exact hD'
    clear hP' hD' hS'
    refine lv_aload_n hx hb dX4_add_22 rfl (lv_at hl 0 rfl) ?_
    refine lv_dup hx hb dX4_add_23 rfl ?_
    refine va_get (D := (dC, dI)) (ci := 3) (v := .int (S1_21 9 0)) (C := RX4) (T := TX4) (N := 10) hx hb hts hinX4 hown hK hP 0 rfl rfl 0 (by decide) hF39 (fun _ h9 => h9) rfl dX4_add_24 ?_
    refine lv_iconst (v := 1) hx hb dX4_add_27 ic_1 ?_
    refine lv_iadd hx hb dX4_add_28 ?_
    refine va_put (D := (dC, dI)) (ci := 3) (v := .int ((S1_21 9 0) + 1)) (ty := .int) (C := RX4) (T := TX4) (N := 10) hx hb hts hinX4 tyX4 tyX4_ok nmX4 hown hK hP hD hS 0 rfl rfl 0 (by decide) hF39 (fun _ h9 => h9) rfl (by decide +kernel) rfl rfl (Nat.le_of_ble_eq_true rfl) dX4_add_29 (fun H29 locs29 hP' hD' hS' => ?_)
    replace hS := hS'
    have hP' : va_P (dC, dI) vwCl (fl [(w_X4 ad (b1) cs (sU S1_21 9 (sU (S1_21 9) 0 ((S1_21 9 0) + 1))))]) H29 := hP'
    have hD' : va_D A (fl [(w_X4 ad (b1) cs (sU S1_21 9 (sU (S1_21 9) 0 ((S1_21 9 0) + 1))))]) := hD'
    replace hR := bn_e hR
    obtain ⟨S1_29, eS1_29, hR⟩ := hR
    replace hP : va_P (dC, dI) vwCl (fl [(w_X4 ad (b1) cs S1_29)]) H29 := by rw [eS1_29]; exact hP'
    replace hD : va_D A (fl [(w_X4 ad (b1) cs S1_29)]) := by rw [eS1_29]; exact hD'
    clear hP' hD' hS'
    refine lv_aload_n hx hb dX4_add_32 rfl (lv_at hl 0 rfl) ?_
    refine va_get (D := (dC, dI)) (ci := 3) (v := .int (S1_29 9 0)) (C := RX4) (T := TX4) (N := 10) hx hb hts hinX4 hown hK hP 0 rfl rfl 0 (by decide) hF39 (fun _ h9 => h9) rfl dX4_add_33 ?_
    refine lv_iconst (v := 1) hx hb dX4_add_36 ic_1 ?_
    refine lv_isub hx hb dX4_add_37 ?_
    replace hR := Option.some.inj hR
    obtain ⟨e9, hR⟩ := Prod.mk.inj hR
    have eu1 := hR
    replace hP : va_P (dC, dI) vwCl (fl [(w_X4 ad (b1) cs u1)]) H29 := by rw [← eu1]; exact hP
    replace hD : va_D A (fl [(w_X4 ad (b1) cs u1)]) := by rw [← eu1]; exact hD
    exact W.iret hx hb hr (fun t ht hW => ⟨⟨_, (), rfl, e9, by rw [ht]; exact hP, va_K.moved hW.alike hK, hD⟩, hS.F ht⟩) hS.2.2 dX4_add_38
  · replace hR := it_f hR c6
    refine lv_bipush (v := (-3)) hx hb dX4_add_9 bp_m3 ?_
    replace hR := Option.some.inj hR
    obtain ⟨e9, hR⟩ := Prod.mk.inj hR
    have eu1 := hR
    replace hP : va_P (dC, dI) vwCl (fl [(w_X4 ad (b1) cs u1)]) s.heap := by rw [← eu1]; exact hP
    replace hD : va_D A (fl [(w_X4 ad (b1) cs u1)]) := by rw [← eu1]; exact hD
    exact W.iret hx hb hr (fun t ht hW => ⟨⟨_, (), rfl, e9, by rw [ht]; exact hP, va_K.moved hW.alike hK, hD⟩, hS.F ht⟩) hS.2.2 dX4_add_11
set_option maxHeartbeats 8000000 in
set_option maxRecDepth 100000 in
theorem k_X4_hasRide (l : Launch) (dC : Nat → ClassId) (dI : Nat → Nat → Nat) (cs : Nat → ClassId) (ad : Nat → Nat) (b1 : Nat) (sz : Nat) (S1 : T2) (p1 : Int32) (r : Int32) (hR : fX4_hasRide S1 p1 = some r) : Met l yX4_hasRide wsX4_hasRide ({ frames := 1, cells := 0, slots := 0, locals := 21 } : Room) (va_Pc [.ref (ad b1), .int p1] (pW dC dI (tyL cs) (fl [(w_X4 ad (b1) cs S1)]) sz)) (QI dC dI (tyL cs) (va_A (fl [(w_X4 ad (b1) cs S1)]) sz) (fl [(w_X4 ad (b1) cs S1)]) r) 0 0 (va_A (fl [(w_X4 ad (b1) cs S1)]) sz) := by
  refine mt_of (own := RX4) (cc := cX4_hasRide) (maxL := 2) (ret := (some .boolean)) (Qc := fun A => QI dC dI (tyL cs) A (fl [(w_X4 ad (b1) cs S1)]) r) rfl (by decide) rfl (Nat.le_of_ble_eq_true rfl) (fun p e s m below meth c A ls hsz hx hb hr hts hown hlocks hml hA hK hP hD hS hl => ?_)
  subst hsz
  have hl : lv_has ls 2 [(0, .ref (ad b1)), (1, .int p1)] := hl
  have hF24 := hts (.fieldLink RX4 24 "DockedBikes$Riders" "bicycle" "[I") (List.mem_of_getElem? (i := 1) rfl)
  have hinX4 : ∀ w ∈ wsX40, w ∈ wsX4_hasRide := by decide +kernel
  refine lv_aload_n hx hb dX4_hasRide_0 rfl (lv_at hl 0 rfl) ?_
  refine lv_iload_n hx hb dX4_hasRide_1 rfl (lv_at hl 1 rfl) ?_
  replace hR := bd_e hR
  obtain ⟨q2, gq2, hR⟩ := hR
  refine cl_Vi (As := [.int p1]) (rest := []) (L := [(w_X4 ad (b1) cs S1)]) (L' := [(w_X4 ad (b1) cs S1)]) (Wc := [(w_X4 ad (b1) cs S1)]) (Wc' := [(w_X4 ad (b1) cs S1)]) (is := [0]) (js := []) ⟨hx, hb, hml, hown, hts⟩ (k_X4_has l dC dI cs ad (b1) s.heap.size S1 p1 q2 gq2) (cwV 1 hts gX4_hasRide_X4_has rfl rfl rfl cd_X4_has ⟨Nat.le_of_ble_eq_true rfl, Nat.le_of_ble_eq_true rfl⟩) hK hP hD hS hA ⟨rfl, rfl, rfl, rfl, rfl, rfl⟩ (jn_nd (is := [0]) hD rfl rfl) 0 3 rfl rfl rfl rfl rfl hl.1 (Nat.le_of_ble_eq_true rfl) dX4_hasRide_2 (fun H2 locs2 hP' hD' hS' => ?_)
  replace hS := hS'
  replace hP : va_P (dC, dI) vwCl (fl [(w_X4 ad (b1) cs S1)]) H2 := hP'
  replace hD : va_D A (fl [(w_X4 ad (b1) cs S1)]) := hD'
  clear hP' hD' hS'
  refine lv_if_eq (tgt := 22) hx hb dX4_hasRide_5 (by decide) (fun c5 => ?_) (fun c5 => ?_)
  · replace hR := it_t hR c5
    refine lv_iconst (v := 0) hx hb dX4_hasRide_22 ic_0 ?_
    replace hR := Option.some.inj hR
    have e9 := hR
    exact W.zret (ty := .boolean) hx hb hr (by decide) (fun t ht hW => ⟨⟨_, (), rfl, e9, by rw [ht]; exact hP, va_K.moved hW.alike hK, hD⟩, hS.F ht⟩) hS.2.2 dX4_hasRide_23
  · replace hR := it_f hR c5
    refine lv_aload_n hx hb dX4_hasRide_8 rfl (lv_at hl 0 rfl) ?_
    refine va_get (D := (dC, dI)) (ci := 3) (v := .ref (ad (b1 + 5))) (C := RX4) (T := TX4) (N := 10) hx hb hts hinX4 hown hK hP 0 rfl rfl 5 (by decide) hF24 (fun _ h9 => h9) rfl dX4_hasRide_9 ?_
    refine lv_iload_n hx hb dX4_hasRide_12 rfl (lv_at hl 1 rfl) ?_
    replace hR := gi_e hR
    obtain ⟨i13, hR⟩ := hR
    refine va_iald hx hb hK hP 5 0 rfl rfl i13 dX4_hasRide_13 ?_
    refine lv_iconst (v := (-1)) hx hb dX4_hasRide_14 ic_m1 ?_
    refine lv_icmp_eq (tgt := 22) hx hb dX4_hasRide_15 (by decide) (fun c15 => ?_) (fun c15 => ?_)
    · replace hR := it_t hR c15
      refine lv_iconst (v := 0) hx hb dX4_hasRide_22 ic_0 ?_
      replace hR := Option.some.inj hR
      have e9 := hR
      exact W.zret (ty := .boolean) hx hb hr (by decide) (fun t ht hW => ⟨⟨_, (), rfl, e9, by rw [ht]; exact hP, va_K.moved hW.alike hK, hD⟩, hS.F ht⟩) hS.2.2 dX4_hasRide_23
    · replace hR := it_f hR c15
      refine lv_iconst (v := 1) hx hb dX4_hasRide_18 ic_1 ?_
      refine lv_goto (tgt := 23) hx hb dX4_hasRide_19 (by decide) ?_
      replace hR := Option.some.inj hR
      have e9 := hR
      exact W.zret (ty := .boolean) hx hb hr (by decide) (fun t ht hW => ⟨⟨_, (), rfl, e9, by rw [ht]; exact hP, va_K.moved hW.alike hK, hD⟩, hS.F ht⟩) hS.2.2 dX4_hasRide_23
set_option maxHeartbeats 8000000 in
set_option maxRecDepth 100000 in
theorem k_X4_rideMinutes (l : Launch) (dC : Nat → ClassId) (dI : Nat → Nat → Nat) (cs : Nat → ClassId) (ad : Nat → Nat) (b1 : Nat) (sz : Nat) (S1 : T2) (p1 : Int32) (p2 : Int32) (r : Int32) (hR : fX4_rideMinutes S1 p1 p2 = some r) : Met l yX4_rideMinutes wsX4_rideMinutes ({ frames := 1, cells := 0, slots := 0, locals := 21 } : Room) (va_Pc [.ref (ad b1), .int p1, .int p2] (pW dC dI (tyL cs) (fl [(w_X4 ad (b1) cs S1)]) sz)) (QI dC dI (tyL cs) (va_A (fl [(w_X4 ad (b1) cs S1)]) sz) (fl [(w_X4 ad (b1) cs S1)]) r) 0 0 (va_A (fl [(w_X4 ad (b1) cs S1)]) sz) := by
  refine mt_of (own := RX4) (cc := cX4_rideMinutes) (maxL := 3) (ret := (some .int)) (Qc := fun A => QI dC dI (tyL cs) A (fl [(w_X4 ad (b1) cs S1)]) r) rfl (by decide) rfl (Nat.le_of_ble_eq_true rfl) (fun p e s m below meth c A ls hsz hx hb hr hts hown hlocks hml hA hK hP hD hS hl => ?_)
  subst hsz
  have hl : lv_has ls 3 [(0, .ref (ad b1)), (1, .int p1), (2, .int p2)] := hl
  have hF27 := hts (.fieldLink RX4 27 "DockedBikes$Riders" "start" "[I") (List.mem_of_getElem? (i := 1) rfl)
  have hinX4 : ∀ w ∈ wsX40, w ∈ wsX4_rideMinutes := by decide +kernel
  refine lv_aload_n hx hb dX4_rideMinutes_0 rfl (lv_at hl 0 rfl) ?_
  refine lv_iload_n hx hb dX4_rideMinutes_1 rfl (lv_at hl 1 rfl) ?_
  replace hR := bd_e hR
  obtain ⟨q2, gq2, hR⟩ := hR
  refine cl_Vi (As := [.int p1]) (rest := []) (L := [(w_X4 ad (b1) cs S1)]) (L' := [(w_X4 ad (b1) cs S1)]) (Wc := [(w_X4 ad (b1) cs S1)]) (Wc' := [(w_X4 ad (b1) cs S1)]) (is := [0]) (js := []) ⟨hx, hb, hml, hown, hts⟩ (k_X4_has l dC dI cs ad (b1) s.heap.size S1 p1 q2 gq2) (cwV 1 hts gX4_rideMinutes_X4_has rfl rfl rfl cd_X4_has ⟨Nat.le_of_ble_eq_true rfl, Nat.le_of_ble_eq_true rfl⟩) hK hP hD hS hA ⟨rfl, rfl, rfl, rfl, rfl, rfl⟩ (jn_nd (is := [0]) hD rfl rfl) 0 3 rfl rfl rfl rfl rfl hl.1 (Nat.le_of_ble_eq_true rfl) dX4_rideMinutes_2 (fun H2 locs2 hP' hD' hS' => ?_)
  replace hS := hS'
  replace hP : va_P (dC, dI) vwCl (fl [(w_X4 ad (b1) cs S1)]) H2 := hP'
  replace hD : va_D A (fl [(w_X4 ad (b1) cs S1)]) := hD'
  clear hP' hD' hS'
  refine lv_if_eq (tgt := 19) hx hb dX4_rideMinutes_5 (by decide) (fun c5 => ?_) (fun c5 => ?_)
  · replace hR := it_t hR c5
    refine lv_iconst (v := 0) hx hb dX4_rideMinutes_19 ic_0 ?_
    replace hR := Option.some.inj hR
    have e9 := hR
    exact W.iret hx hb hr (fun t ht hW => ⟨⟨_, (), rfl, e9, by rw [ht]; exact hP, va_K.moved hW.alike hK, hD⟩, hS.F ht⟩) hS.2.2 dX4_rideMinutes_20
  · replace hR := it_f hR c5
    refine lv_iload_n hx hb dX4_rideMinutes_8 rfl (lv_at hl 2 rfl) ?_
    refine lv_aload_n hx hb dX4_rideMinutes_9 rfl (lv_at hl 0 rfl) ?_
    refine va_get (D := (dC, dI)) (ci := 3) (v := .ref (ad (b1 + 6))) (C := RX4) (T := TX4) (N := 10) hx hb hts hinX4 hown hK hP 0 rfl rfl 6 (by decide) hF27 (fun _ h9 => h9) rfl dX4_rideMinutes_10 ?_
    refine lv_iload_n hx hb dX4_rideMinutes_13 rfl (lv_at hl 1 rfl) ?_
    replace hR := gi_e hR
    obtain ⟨i14, hR⟩ := hR
    refine va_iald hx hb hK hP 6 0 rfl rfl i14 dX4_rideMinutes_14 ?_
    refine lv_isub hx hb dX4_rideMinutes_15 ?_
    refine lv_goto (tgt := 20) hx hb dX4_rideMinutes_16 (by decide) ?_
    replace hR := Option.some.inj hR
    have e9 := hR
    exact W.iret hx hb hr (fun t ht hW => ⟨⟨_, (), rfl, e9, by rw [ht]; exact hP, va_K.moved hW.alike hK, hD⟩, hS.F ht⟩) hS.2.2 dX4_rideMinutes_20
set_option maxHeartbeats 8000000 in
set_option maxRecDepth 100000 in
theorem k_X4_fee (l : Launch) (dC : Nat → ClassId) (dI : Nat → Nat → Nat) (cs : Nat → ClassId) (ad : Nat → Nat) (b1 : Nat) (sz : Nat) (S1 : T2) (p1 : Int32) (p2 : Int32) (r : Int32) (hR : fX4_fee S1 p1 p2 = some r) : Met l yX4_fee wsX4_fee ({ frames := 2, cells := 0, slots := 0, locals := 43 } : Room) (va_Pc [.ref (ad b1), .int p1, .int p2] (pW dC dI (tyL cs) (fl [(w_X4 ad (b1) cs S1)]) sz)) (QI dC dI (tyL cs) (va_A (fl [(w_X4 ad (b1) cs S1)]) sz) (fl [(w_X4 ad (b1) cs S1)]) r) 0 0 (va_A (fl [(w_X4 ad (b1) cs S1)]) sz) := by
  refine mt_of (own := RX4) (cc := cX4_fee) (maxL := 4) (ret := (some .int)) (Qc := fun A => QI dC dI (tyL cs) A (fl [(w_X4 ad (b1) cs S1)]) r) rfl (by decide) rfl (Nat.le_of_ble_eq_true rfl) (fun p e s m below meth c A ls hsz hx hb hr hts hown hlocks hml hA hK hP hD hS hl => ?_)
  subst hsz
  have hl : lv_has ls 4 [(0, .ref (ad b1)), (1, .int p1), (2, .int p2)] := hl
  have hF30 := hts (.fieldLink RX4 30 "DockedBikes$Riders" "free" "[I") (List.mem_of_getElem? (i := 1) rfl)
  have hF33 := hts (.fieldLink RX4 33 "DockedBikes$Riders" "ground" "[I") (List.mem_of_getElem? (i := 6) rfl)
  have hinX4 : ∀ w ∈ wsX40, w ∈ wsX4_fee := by decide +kernel
  refine lv_aload_n hx hb dX4_fee_0 rfl (lv_at hl 0 rfl) ?_
  refine lv_iload_n hx hb dX4_fee_1 rfl (lv_at hl 1 rfl) ?_
  replace hR := bd_e hR
  obtain ⟨q2, gq2, hR⟩ := hR
  refine cl_Vi (As := [.int p1]) (rest := []) (L := [(w_X4 ad (b1) cs S1)]) (L' := [(w_X4 ad (b1) cs S1)]) (Wc := [(w_X4 ad (b1) cs S1)]) (Wc' := [(w_X4 ad (b1) cs S1)]) (is := [0]) (js := []) ⟨hx, hb, hml, hown, hts⟩ (k_X4_hasRide l dC dI cs ad (b1) s.heap.size S1 p1 q2 gq2) (cwV 1 hts gX4_fee_X4_hasRide rfl rfl rfl cd_X4_hasRide ⟨Nat.le_of_ble_eq_true rfl, Nat.le_of_ble_eq_true rfl⟩) hK hP hD hS hA ⟨rfl, rfl, rfl, rfl, rfl, rfl⟩ (jn_nd (is := [0]) hD rfl rfl) 0 3 rfl rfl rfl rfl rfl hl.1 (Nat.le_of_ble_eq_true rfl) dX4_fee_2 (fun H2 locs2 hP' hD' hS' => ?_)
  replace hS := hS'
  replace hP : va_P (dC, dI) vwCl (fl [(w_X4 ad (b1) cs S1)]) H2 := hP'
  replace hD : va_D A (fl [(w_X4 ad (b1) cs S1)]) := hD'
  clear hP' hD' hS'
  refine lv_if_ne (tgt := 10) hx hb dX4_fee_5 (by decide) (fun c5 => ?_) (fun c5 => ?_)
  · replace hR := it_f hR c5
    refine lv_iconst (v := 0) hx hb dX4_fee_10 ic_0 ?_
    refine lv_aload_n hx hb dX4_fee_11 rfl (lv_at hl 0 rfl) ?_
    refine lv_iload_n hx hb dX4_fee_12 rfl (lv_at hl 1 rfl) ?_
    refine lv_iload_n hx hb dX4_fee_13 rfl (lv_at hl 2 rfl) ?_
    replace hR := bd_e hR
    obtain ⟨q14, gq14, hR⟩ := hR
    refine cl_Vi (As := [.int p1, .int p2]) (rest := [.int (0 : Int32)]) (L := [(w_X4 ad (b1) cs S1)]) (L' := [(w_X4 ad (b1) cs S1)]) (Wc := [(w_X4 ad (b1) cs S1)]) (Wc' := [(w_X4 ad (b1) cs S1)]) (is := [0]) (js := []) ⟨hx, hb, hml, hown, hts⟩ (k_X4_rideMinutes l dC dI cs ad (b1) H2.size S1 p1 p2 q14 gq14) (cwV 2 hts gX4_fee_X4_rideMinutes rfl rfl rfl cd_X4_rideMinutes ⟨Nat.le_of_ble_eq_true rfl, Nat.le_of_ble_eq_true rfl⟩) hK hP hD hS hA ⟨rfl, rfl, rfl, rfl, rfl, rfl⟩ (jn_nd (is := [0]) hD rfl rfl) 0 3 rfl rfl rfl rfl rfl hl.1 (Nat.le_of_ble_eq_true rfl) dX4_fee_14 (fun H14 locs14 hP' hD' hS' => ?_)
    replace hS := hS'
    replace hP : va_P (dC, dI) vwCl (fl [(w_X4 ad (b1) cs S1)]) H14 := hP'
    replace hD : va_D A (fl [(w_X4 ad (b1) cs S1)]) := hD'
    clear hP' hD' hS'
    refine lv_aload_n hx hb dX4_fee_17 rfl (lv_at hl 0 rfl) ?_
    refine va_get (D := (dC, dI)) (ci := 3) (v := .ref (ad (b1 + 7))) (C := RX4) (T := TX4) (N := 10) hx hb hts hinX4 hown hK hP 0 rfl rfl 7 (by decide) hF30 (fun _ h9 => h9) rfl dX4_fee_18 ?_
    refine lv_iload_n hx hb dX4_fee_21 rfl (lv_at hl 1 rfl) ?_
    replace hR := gi_e hR
    obtain ⟨i22, hR⟩ := hR
    refine va_iald hx hb hK hP 7 0 rfl rfl i22 dX4_fee_22 ?_
    refine lv_isub hx hb dX4_fee_23 ?_
    refine va_mmax hx hb (hml.trans hl.1.symm) hown (hts (.methodLink RX4 60 Lib.Math.max.name) (List.mem_of_getElem? (i := 2) rfl)) (hts (.static Lib.Math.max.name) (List.mem_of_getElem? (i := 3) rfl)) (hts (.initialized "java/lang/Math") (List.mem_of_getElem? (i := 4) rfl)) (hts (.code Lib.Math.max.name Lib.Math.max.code 2 (some .int)) (List.mem_of_getElem? (i := 5) rfl)) (Nat.le_of_ble_eq_true rfl) (Nat.le_of_ble_eq_true rfl) (Nat.zero_le _) (Nat.zero_le _) dX4_fee_24 ?_
    replace hR := bn_e hR
    obtain ⟨m24, em24, hR⟩ := hR
    refine tp_e em24 ?_
    refine lv_istore_n (lv' := [(3, .int m24), (0, .ref (ad b1)), (1, .int p1), (2, .int p2)]) hx hb dX4_fee_27 rfl hl (Nat.le_of_ble_eq_true rfl) rfl (fun ls hl => ?_)
    refine lv_iload_n hx hb dX4_fee_28 rfl (lv_at hl 0 rfl) ?_
    refine lv_iconst (v := 5) hx hb dX4_fee_29 ic_5 ?_
    refine lv_iadd hx hb dX4_fee_30 ?_
    refine lv_iconst (v := 1) hx hb dX4_fee_31 ic_1 ?_
    refine lv_isub hx hb dX4_fee_32 ?_
    refine lv_iconst (v := 5) hx hb dX4_fee_33 ic_5 ?_
    refine lv_idiv hx hb dX4_fee_34 (by decide) ?_
    refine lv_aload_n hx hb dX4_fee_35 rfl (lv_at hl 1 rfl) ?_
    refine va_get (D := (dC, dI)) (ci := 3) (v := .ref (ad (b1 + 8))) (C := RX4) (T := TX4) (N := 10) hx hb hts hinX4 hown hK hP 0 rfl rfl 8 (by decide) hF33 (fun _ h9 => h9) rfl dX4_fee_36 ?_
    refine lv_iload_n hx hb dX4_fee_39 rfl (lv_at hl 2 rfl) ?_
    replace hR := gi_e hR
    obtain ⟨i40, hR⟩ := hR
    refine va_iald hx hb hK hP 8 0 rfl rfl i40 dX4_fee_40 ?_
    refine lv_iadd hx hb dX4_fee_41 ?_
    replace hR := Option.some.inj hR
    have e9 := hR
    exact W.iret hx hb hr (fun t ht hW => ⟨⟨_, (), rfl, e9, by rw [ht]; exact hP, va_K.moved hW.alike hK, hD⟩, hS.F ht⟩) hS.2.2 dX4_fee_42
  · replace hR := it_t hR c5
    refine lv_iconst (v := 0) hx hb dX4_fee_8 ic_0 ?_
    replace hR := Option.some.inj hR
    have e9 := hR
    exact W.iret hx hb hr (fun t ht hW => ⟨⟨_, (), rfl, e9, by rw [ht]; exact hP, va_K.moved hW.alike hK, hD⟩, hS.F ht⟩) hS.2.2 dX4_fee_9
set_option maxHeartbeats 8000000 in
set_option maxRecDepth 100000 in
theorem k_X4_allOwed (l : Launch) (dC : Nat → ClassId) (dI : Nat → Nat → Nat) (cs : Nat → ClassId) (ad : Nat → Nat) (b1 : Nat) (sz : Nat) (S1 : T2) (r : Int32) (hR : fX4_allOwed S1 = some r) : Met l yX4_allOwed wsX4_allOwed ({ frames := 0, cells := 0, slots := 0, locals := 0 } : Room) (va_Pc [.ref (ad b1)] (pW dC dI (tyL cs) (fl [(w_X4 ad (b1) cs S1)]) sz)) (QI dC dI (tyL cs) (va_A (fl [(w_X4 ad (b1) cs S1)]) sz) (fl [(w_X4 ad (b1) cs S1)]) r) 0 0 (va_A (fl [(w_X4 ad (b1) cs S1)]) sz) := by
  refine mt_of (own := RX4) (cc := cX4_allOwed) (maxL := 3) (ret := (some .int)) (Qc := fun A => QI dC dI (tyL cs) A (fl [(w_X4 ad (b1) cs S1)]) r) rfl (by decide) rfl (Nat.le_of_ble_eq_true rfl) (fun p e s m below meth c A ls hsz hx hb hr hts hown hlocks hml hA hK hP hD hS hl => ?_)
  subst hsz
  have hl : lv_has ls 3 [(0, .ref (ad b1))] := hl
  have hF11 := hts (.fieldLink RX4 11 "DockedBikes$Riders" "owed" "[I") (List.mem_of_getElem? (i := 2) rfl)
  have hF39 := hts (.fieldLink RX4 39 "DockedBikes$Riders" "size" "I") (List.mem_of_getElem? (i := 1) rfl)
  have hinX4 : ∀ w ∈ wsX40, w ∈ wsX4_allOwed := by decide +kernel
  have hB4 : ∀ (n4 : Nat), ∀ (v1_4 : Int32) (v2_4 : Int32) (H : Heap) (locs : List Loc) (ls : Array Slot), fX4_allOwed_4 S1 n4 v1_4 v2_4 = some r → va_P (dC, dI) vwCl (fl [(w_X4 ad (b1) cs S1)]) H → va_D A (fl [(w_X4 ad (b1) cs S1)]) → va_S A s.heap H locs → lv_has ls 3 [(0, .ref (ad b1)), (1, .int v1_4), (2, .int v2_4)] → W p l e (headSpec wsX4_allOwed ({ frames := 0, cells := 0, slots := 0, locals := 0 } : Room)).room s m ([.ref (ad b1)] : List Value).toArray below meth c H locs 0 0 (MQ below (QI dC dI (tyL cs) A (fl [(w_X4 ad (b1) cs S1)]) r) ([.ref (ad b1)] : List Value).toArray s 0 0 A) (F0 m 4 ls []) := by
    intro n4
    induction n4 with
    | zero =>
      intro v1_4 v2_4 H locs ls hR hP hD hS hl
      exact nn_e hR
    | succ n4 hI4 =>
      intro v1_4 v2_4 H locs ls hR hP hD hS hl
      rw [fX4_allOwed_4] at hR
      refine lv_iload_n hx hb dX4_allOwed_4 rfl (lv_at hl 2 rfl) ?_
      refine lv_aload_n hx hb dX4_allOwed_5 rfl (lv_at hl 0 rfl) ?_
      refine va_get (D := (dC, dI)) (ci := 3) (v := .int (S1 9 0)) (C := RX4) (T := TX4) (N := 10) hx hb hts hinX4 hown hK hP 0 rfl rfl 0 (by decide) hF39 (fun _ h9 => h9) rfl dX4_allOwed_6 ?_
      refine lv_icmp_ge (tgt := 27) hx hb dX4_allOwed_9 (by decide) (fun c9 => ?_) (fun c9 => ?_)
      · replace hR := it_t hR c9
        refine lv_iload_n hx hb dX4_allOwed_27 rfl (lv_at hl 1 rfl) ?_
        replace hR := Option.some.inj hR
        have e9 := hR
        exact W.iret hx hb hr (fun t ht hW => ⟨⟨_, (), rfl, e9, by rw [ht]; exact hP, va_K.moved hW.alike hK, hD⟩, hS.F ht⟩) hS.2.2 dX4_allOwed_28
      · replace hR := it_f hR c9
        refine lv_iload_n hx hb dX4_allOwed_12 rfl (lv_at hl 1 rfl) ?_
        refine lv_aload_n hx hb dX4_allOwed_13 rfl (lv_at hl 0 rfl) ?_
        refine va_get (D := (dC, dI)) (ci := 3) (v := .ref (ad (b1 + 1))) (C := RX4) (T := TX4) (N := 10) hx hb hts hinX4 hown hK hP 0 rfl rfl 1 (by decide) hF11 (fun _ h9 => h9) rfl dX4_allOwed_14 ?_
        refine lv_iload_n hx hb dX4_allOwed_17 rfl (lv_at hl 2 rfl) ?_
        replace hR := gi_e hR
        obtain ⟨i18, hR⟩ := hR
        refine va_iald hx hb hK hP 1 0 rfl rfl i18 dX4_allOwed_18 ?_
        refine lv_iadd hx hb dX4_allOwed_19 ?_
        refine lv_istore_n (lv' := [(1, .int (v1_4 + (S1 0 v2_4.toNatClampNeg))), (0, .ref (ad b1)), (2, .int v2_4)]) hx hb dX4_allOwed_20 rfl hl (Nat.le_of_ble_eq_true rfl) rfl (fun ls hl => ?_)
        refine lv_iinc (v := (v2_4 + 1)) (lv' := [(2, .int (v2_4 + 1)), (1, .int (v1_4 + (S1 0 v2_4.toNatClampNeg))), (0, .ref (ad b1))]) hx hb dX4_allOwed_21 hl (k := 2) rfl rfl (Nat.le_of_ble_eq_true rfl) rfl (fun ls hl => ?_)
        refine lv_goto (tgt := 4) hx hb dX4_allOwed_24 (by decide) ?_
        exact hI4 (v1_4 + (S1 0 v2_4.toNatClampNeg)) (v2_4 + 1) H _ ls hR hP hD hS (lv_sub hl [2, 1, 0] rfl)
  refine lv_iconst (v := 0) hx hb dX4_allOwed_0 ic_0 ?_
  refine lv_istore_n (lv' := [(1, .int (0 : Int32)), (0, .ref (ad b1))]) hx hb dX4_allOwed_1 rfl hl (Nat.le_of_ble_eq_true rfl) rfl (fun ls hl => ?_)
  refine lv_iconst (v := 0) hx hb dX4_allOwed_2 ic_0 ?_
  refine lv_istore_n (lv' := [(2, .int (0 : Int32)), (1, .int (0 : Int32)), (0, .ref (ad b1))]) hx hb dX4_allOwed_3 rfl hl (Nat.le_of_ble_eq_true rfl) rfl (fun ls hl => ?_)
  exact hB4 fuel (0 : Int32) (0 : Int32) s.heap _ ls hR hP hD hS (lv_sub hl [2, 1, 0] rfl)
set_option maxHeartbeats 8000000 in
set_option maxRecDepth 100000 in
theorem k_X6_add (l : Launch) (dC : Nat → ClassId) (dI : Nat → Nat → Nat) (cs : Nat → ClassId) (ad : Nat → Nat) (b1 : Nat) (sz : Nat) (S1 : T2) (p1 : Int32) (p2 : Int32) (r : Int32) (u1 : T2) (hR : fX6_add S1 p1 p2 = some (r, u1)) : Met l yX6_add wsX6_add ({ frames := 0, cells := 0, slots := 0, locals := 0 } : Room) (va_Pc [.ref (ad b1), .int p1, .int p2] (pW dC dI (tyL cs) (fl [(w_X6 ad (b1) cs S1)]) sz)) (QI dC dI (tyL cs) (va_A (fl [(w_X6 ad (b1) cs S1)]) sz) (fl [(w_X6 ad (b1) cs u1)]) r) 0 0 (va_A (fl [(w_X6 ad (b1) cs S1)]) sz) := by
  refine mt_of (own := RX6) (cc := cX6_add) (maxL := 3) (ret := (some .int)) (Qc := fun A => QI dC dI (tyL cs) A (fl [(w_X6 ad (b1) cs u1)]) r) rfl (by decide) rfl (Nat.le_of_ble_eq_true rfl) (fun p e s m below meth c A ls hsz hx hb hr hts hown hlocks hml hA hK hP hD hS hl => ?_)
  subst hsz
  have hl : lv_has ls 3 [(0, .ref (ad b1)), (1, .int p1), (2, .int p2)] := hl
  have hF11 := hts (.fieldLink RX6 11 "DockedBikes$Stations" "place" "[I") (List.mem_of_getElem? (i := 2) rfl)
  have hF15 := hts (.fieldLink RX6 15 "DockedBikes$Stations" "docks" "[I") (List.mem_of_getElem? (i := 3) rfl)
  have hF24 := hts (.fieldLink RX6 24 "DockedBikes$Stations" "size" "I") (List.mem_of_getElem? (i := 1) rfl)
  have hinX6 : ∀ w ∈ wsX60, w ∈ wsX6_add := by decide +kernel
  refine lv_aload_n hx hb dX6_add_0 rfl (lv_at hl 0 rfl) ?_
  refine va_get (D := (dC, dI)) (ci := 5) (v := .int (S1 4 0)) (C := RX6) (T := TX6) (N := 5) hx hb hts hinX6 hown hK hP 0 rfl rfl 0 (by decide) hF24 (fun _ h9 => h9) rfl dX6_add_1 ?_
  refine lv_bipush (v := 6) hx hb dX6_add_4 bp_6 ?_
  refine lv_icmp_lt (tgt := 12) hx hb dX6_add_6 (by decide) (fun c6 => ?_) (fun c6 => ?_)
  · replace hR := it_t hR c6
    refine lv_aload_n hx hb dX6_add_12 rfl (lv_at hl 0 rfl) ?_
    refine va_get (D := (dC, dI)) (ci := 5) (v := .ref (ad (b1 + 1))) (C := RX6) (T := TX6) (N := 5) hx hb hts hinX6 hown hK hP 0 rfl rfl 1 (by decide) hF11 (fun _ h9 => h9) rfl dX6_add_13 ?_
    refine lv_aload_n hx hb dX6_add_16 rfl (lv_at hl 0 rfl) ?_
    refine va_get (D := (dC, dI)) (ci := 5) (v := .int (S1 4 0)) (C := RX6) (T := TX6) (N := 5) hx hb hts hinX6 hown hK hP 0 rfl rfl 0 (by decide) hF24 (fun _ h9 => h9) rfl dX6_add_17 ?_
    refine lv_iload_n hx hb dX6_add_20 rfl (lv_at hl 1 rfl) ?_
    replace hR := gi_e hR
    obtain ⟨i21, hR⟩ := hR
    refine va_iast hx hb hK hP hD hS 1 0 rfl rfl i21 dX6_add_21 (fun H21 locs21 hP' hD' hS' => ?_)
    replace hS := hS'
    have hP' : va_P (dC, dI) vwCl (fl [(w_X6 ad (b1) cs (sU S1 0 (sU (S1 0) (S1 4 0).toNatClampNeg p1)))]) H21 := hP'
    have hD' : va_D A (fl [(w_X6 ad (b1) cs (sU S1 0 (sU (S1 0) (S1 4 0).toNatClampNeg p1)))]) := hD'
    replace hR := bn_e hR
    obtain ⟨S1_21, eS1_21, hR⟩ := hR
    replace hP : va_P (dC, dI) vwCl (fl [(w_X6 ad (b1) cs S1_21)]) H21 := by rw [eS1_21]; exact hP'
    replace hD : va_D A (fl [(w_X6 ad (b1) cs S1_21)]) := by rw [eS1_21]; exact hD'
    clear hP' hD' hS'
    refine lv_aload_n hx hb dX6_add_22 rfl (lv_at hl 0 rfl) ?_
    refine va_get (D := (dC, dI)) (ci := 5) (v := .ref (ad (b1 + 2))) (C := RX6) (T := TX6) (N := 5) hx hb hts hinX6 hown hK hP 0 rfl rfl 2 (by decide) hF15 (fun _ h9 => h9) rfl dX6_add_23 ?_
    refine lv_aload_n hx hb dX6_add_26 rfl (lv_at hl 0 rfl) ?_
    refine va_get (D := (dC, dI)) (ci := 5) (v := .int (S1_21 4 0)) (C := RX6) (T := TX6) (N := 5) hx hb hts hinX6 hown hK hP 0 rfl rfl 0 (by decide) hF24 (fun _ h9 => h9) rfl dX6_add_27 ?_
    refine lv_iload_n hx hb dX6_add_30 rfl (lv_at hl 2 rfl) ?_
    replace hR := gi_e hR
    obtain ⟨i31, hR⟩ := hR
    refine va_iast hx hb hK hP hD hS 2 0 rfl rfl i31 dX6_add_31 (fun H31 locs31 hP' hD' hS' => ?_)
    replace hS := hS'
    have hP' : va_P (dC, dI) vwCl (fl [(w_X6 ad (b1) cs (sU S1_21 1 (sU (S1_21 1) (S1_21 4 0).toNatClampNeg p2)))]) H31 := hP'
    have hD' : va_D A (fl [(w_X6 ad (b1) cs (sU S1_21 1 (sU (S1_21 1) (S1_21 4 0).toNatClampNeg p2)))]) := hD'
    replace hR := bn_e hR
    obtain ⟨S1_31, eS1_31, hR⟩ := hR
    replace hP : va_P (dC, dI) vwCl (fl [(w_X6 ad (b1) cs S1_31)]) H31 := by rw [eS1_31]; exact hP'
    replace hD : va_D A (fl [(w_X6 ad (b1) cs S1_31)]) := by rw [eS1_31]; exact hD'
    clear hP' hD' hS'
    refine lv_aload_n hx hb dX6_add_32 rfl (lv_at hl 0 rfl) ?_
    refine lv_dup hx hb dX6_add_33 rfl ?_
    refine va_get (D := (dC, dI)) (ci := 5) (v := .int (S1_31 4 0)) (C := RX6) (T := TX6) (N := 5) hx hb hts hinX6 hown hK hP 0 rfl rfl 0 (by decide) hF24 (fun _ h9 => h9) rfl dX6_add_34 ?_
    refine lv_iconst (v := 1) hx hb dX6_add_37 ic_1 ?_
    refine lv_iadd hx hb dX6_add_38 ?_
    refine va_put (D := (dC, dI)) (ci := 5) (v := .int ((S1_31 4 0) + 1)) (ty := .int) (C := RX6) (T := TX6) (N := 5) hx hb hts hinX6 tyX6 tyX6_ok nmX6 hown hK hP hD hS 0 rfl rfl 0 (by decide) hF24 (fun _ h9 => h9) rfl (by decide +kernel) rfl rfl (Nat.le_of_ble_eq_true rfl) dX6_add_39 (fun H39 locs39 hP' hD' hS' => ?_)
    replace hS := hS'
    have hP' : va_P (dC, dI) vwCl (fl [(w_X6 ad (b1) cs (sU S1_31 4 (sU (S1_31 4) 0 ((S1_31 4 0) + 1))))]) H39 := hP'
    have hD' : va_D A (fl [(w_X6 ad (b1) cs (sU S1_31 4 (sU (S1_31 4) 0 ((S1_31 4 0) + 1))))]) := hD'
    replace hR := bn_e hR
    obtain ⟨S1_39, eS1_39, hR⟩ := hR
    replace hP : va_P (dC, dI) vwCl (fl [(w_X6 ad (b1) cs S1_39)]) H39 := by rw [eS1_39]; exact hP'
    replace hD : va_D A (fl [(w_X6 ad (b1) cs S1_39)]) := by rw [eS1_39]; exact hD'
    clear hP' hD' hS'
    refine lv_aload_n hx hb dX6_add_42 rfl (lv_at hl 0 rfl) ?_
    refine va_get (D := (dC, dI)) (ci := 5) (v := .int (S1_39 4 0)) (C := RX6) (T := TX6) (N := 5) hx hb hts hinX6 hown hK hP 0 rfl rfl 0 (by decide) hF24 (fun _ h9 => h9) rfl dX6_add_43 ?_
    refine lv_iconst (v := 1) hx hb dX6_add_46 ic_1 ?_
    refine lv_isub hx hb dX6_add_47 ?_
    replace hR := Option.some.inj hR
    obtain ⟨e9, hR⟩ := Prod.mk.inj hR
    have eu1 := hR
    replace hP : va_P (dC, dI) vwCl (fl [(w_X6 ad (b1) cs u1)]) H39 := by rw [← eu1]; exact hP
    replace hD : va_D A (fl [(w_X6 ad (b1) cs u1)]) := by rw [← eu1]; exact hD
    exact W.iret hx hb hr (fun t ht hW => ⟨⟨_, (), rfl, e9, by rw [ht]; exact hP, va_K.moved hW.alike hK, hD⟩, hS.F ht⟩) hS.2.2 dX6_add_48
  · replace hR := it_f hR c6
    refine lv_bipush (v := (-3)) hx hb dX6_add_9 bp_m3 ?_
    replace hR := Option.some.inj hR
    obtain ⟨e9, hR⟩ := Prod.mk.inj hR
    have eu1 := hR
    replace hP : va_P (dC, dI) vwCl (fl [(w_X6 ad (b1) cs u1)]) s.heap := by rw [← eu1]; exact hP
    replace hD : va_D A (fl [(w_X6 ad (b1) cs u1)]) := by rw [← eu1]; exact hD
    exact W.iret hx hb hr (fun t ht hW => ⟨⟨_, (), rfl, e9, by rw [ht]; exact hP, va_K.moved hW.alike hK, hD⟩, hS.F ht⟩) hS.2.2 dX6_add_11
set_option maxHeartbeats 8000000 in
set_option maxRecDepth 100000 in
theorem k_X5_addStation (l : Launch) (dC : Nat → ClassId) (dI : Nat → Nat → Nat) (cs : Nat → ClassId) (ad : Nat → Nat) (b1 : Nat) (sz : Nat) (S1 : T3) (p1 : Int32) (p2 : Int32) (r : Int32) (u1 : T3) (hR : fX5_addStation S1 p1 p2 = some (r, u1)) : Met l yX5_addStation wsX5_addStation ({ frames := 1, cells := 0, slots := 0, locals := 22 } : Room) (va_Pc [.ref (ad b1), .int p1, .int p2] (pW dC dI (tyL cs) (fl [(w_X5 ad (b1) cs S1)]) sz)) (QI dC dI (tyL cs) (va_A (fl [(w_X5 ad (b1) cs S1)]) sz) (fl [(w_X5 ad (b1) cs u1)]) r) 0 0 (va_A (fl [(w_X5 ad (b1) cs S1)]) sz) := by
  refine mt_of (own := RX5) (cc := cX5_addStation) (maxL := 3) (ret := (some .int)) (Qc := fun A => QI dC dI (tyL cs) A (fl [(w_X5 ad (b1) cs u1)]) r) rfl (by decide) rfl (Nat.le_of_ble_eq_true rfl) (fun p e s m below meth c A ls hsz hx hb hr hts hown hlocks hml hA hK hP hD hS hl => ?_)
  subst hsz
  have hl : lv_has ls 3 [(0, .ref (ad b1)), (1, .int p1), (2, .int p2)] := hl
  have hF12 := hts (.fieldLink RX5 12 "DockedBikes$Road" "stations" "LDockedBikes$Stations;") (List.mem_of_getElem? (i := 1) rfl)
  have hinX5 : ∀ w ∈ wsX50, w ∈ wsX5_addStation := by decide +kernel
  refine lv_iload_n hx hb dX5_addStation_0 rfl (lv_at hl 1 rfl) ?_
  refine lv_if_lt (tgt := 21) hx hb dX5_addStation_1 (by decide) (fun c1 => ?_) (fun c1 => ?_)
  · replace hR := it_t hR c1
    refine lv_iconst (v := (-1)) hx hb dX5_addStation_21 ic_m1 ?_
    replace hR := Option.some.inj hR
    obtain ⟨e9, hR⟩ := Prod.mk.inj hR
    have eu1 := hR
    replace hP : va_P (dC, dI) vwCl (fl [(w_X5 ad (b1) cs u1)]) s.heap := by rw [← eu1]; exact hP
    replace hD : va_D A (fl [(w_X5 ad (b1) cs u1)]) := by rw [← eu1]; exact hD
    exact W.iret hx hb hr (fun t ht hW => ⟨⟨_, (), rfl, e9, by rw [ht]; exact hP, va_K.moved hW.alike hK, hD⟩, hS.F ht⟩) hS.2.2 dX5_addStation_22
  · replace hR := it_f hR c1
    refine lv_iload_n hx hb dX5_addStation_4 rfl (lv_at hl 1 rfl) ?_
    refine lv_bipush (v := 99) hx hb dX5_addStation_5 bp_99 ?_
    refine lv_icmp_gt (tgt := 21) hx hb dX5_addStation_7 (by decide) (fun c7 => ?_) (fun c7 => ?_)
    · replace hR := it_t hR c7
      refine lv_iconst (v := (-1)) hx hb dX5_addStation_21 ic_m1 ?_
      replace hR := Option.some.inj hR
      obtain ⟨e9, hR⟩ := Prod.mk.inj hR
      have eu1 := hR
      replace hP : va_P (dC, dI) vwCl (fl [(w_X5 ad (b1) cs u1)]) s.heap := by rw [← eu1]; exact hP
      replace hD : va_D A (fl [(w_X5 ad (b1) cs u1)]) := by rw [← eu1]; exact hD
      exact W.iret hx hb hr (fun t ht hW => ⟨⟨_, (), rfl, e9, by rw [ht]; exact hP, va_K.moved hW.alike hK, hD⟩, hS.F ht⟩) hS.2.2 dX5_addStation_22
    · replace hR := it_f hR c7
      refine lv_iload_n hx hb dX5_addStation_10 rfl (lv_at hl 2 rfl) ?_
      refine lv_iconst (v := 1) hx hb dX5_addStation_11 ic_1 ?_
      refine lv_icmp_lt (tgt := 21) hx hb dX5_addStation_12 (by decide) (fun c12 => ?_) (fun c12 => ?_)
      · replace hR := it_t hR c12
        refine lv_iconst (v := (-1)) hx hb dX5_addStation_21 ic_m1 ?_
        replace hR := Option.some.inj hR
        obtain ⟨e9, hR⟩ := Prod.mk.inj hR
        have eu1 := hR
        replace hP : va_P (dC, dI) vwCl (fl [(w_X5 ad (b1) cs u1)]) s.heap := by rw [← eu1]; exact hP
        replace hD : va_D A (fl [(w_X5 ad (b1) cs u1)]) := by rw [← eu1]; exact hD
        exact W.iret hx hb hr (fun t ht hW => ⟨⟨_, (), rfl, e9, by rw [ht]; exact hP, va_K.moved hW.alike hK, hD⟩, hS.F ht⟩) hS.2.2 dX5_addStation_22
      · replace hR := it_f hR c12
        refine lv_iload_n hx hb dX5_addStation_15 rfl (lv_at hl 2 rfl) ?_
        refine lv_bipush (v := 8) hx hb dX5_addStation_16 bp_8 ?_
        refine lv_icmp_le (tgt := 23) hx hb dX5_addStation_18 (by decide) (fun c18 => ?_) (fun c18 => ?_)
        · replace hR := it_t hR c18
          refine lv_aload_n hx hb dX5_addStation_23 rfl (lv_at hl 0 rfl) ?_
          refine va_get (D := (dC, dI)) (ci := 4) (v := .ref (ad (b1 + 1))) (C := RX5) (T := TX5) (N := 6) hx hb hts hinX5 hown hK hP 0 rfl rfl 0 (by decide) hF12 (fun _ h9 => h9) rfl dX5_addStation_24 ?_
          refine lv_iload_n hx hb dX5_addStation_27 rfl (lv_at hl 1 rfl) ?_
          refine lv_iload_n hx hb dX5_addStation_28 rfl (lv_at hl 2 rfl) ?_
          replace hR := bd_e hR
          obtain ⟨q29, gq29, hR⟩ := hR
          replace hP : va_P (dC, dI) vwCl (fl [[((ad b1), .inr (4, [.ref (ad (b1 + 1)), .ref (ad (b1 + 6)), .ref (ad (b1 + 13)), .ref (ad (b1 + 23)), .ref (ad (b1 + 27)), .int (S1 4 1 0)]))], (w_X6 ad (b1 + 1) cs (S1 0)), (w_X1 ad (b1 + 6) cs (S1 1)), (w_X4 ad (b1 + 13) cs (S1 2)), (w_X8 ad (b1 + 23) cs (S1 3)), [((ad (b1 + 27)), .inl (cs 0, 3, .inl (S1 4 0)))]]) s.heap := hP
          replace hD : va_D A (fl [[((ad b1), .inr (4, [.ref (ad (b1 + 1)), .ref (ad (b1 + 6)), .ref (ad (b1 + 13)), .ref (ad (b1 + 23)), .ref (ad (b1 + 27)), .int (S1 4 1 0)]))], (w_X6 ad (b1 + 1) cs (S1 0)), (w_X1 ad (b1 + 6) cs (S1 1)), (w_X4 ad (b1 + 13) cs (S1 2)), (w_X8 ad (b1 + 23) cs (S1 3)), [((ad (b1 + 27)), .inl (cs 0, 3, .inl (S1 4 0)))]]) := hD
          refine cl_Vi (As := [.int p1, .int p2]) (rest := []) (L := [[((ad b1), .inr (4, [.ref (ad (b1 + 1)), .ref (ad (b1 + 6)), .ref (ad (b1 + 13)), .ref (ad (b1 + 23)), .ref (ad (b1 + 27)), .int (S1 4 1 0)]))], (w_X6 ad (b1 + 1) cs (S1 0)), (w_X1 ad (b1 + 6) cs (S1 1)), (w_X4 ad (b1 + 13) cs (S1 2)), (w_X8 ad (b1 + 23) cs (S1 3)), [((ad (b1 + 27)), .inl (cs 0, 3, .inl (S1 4 0)))]]) (L' := [[((ad b1), .inr (4, [.ref (ad (b1 + 1)), .ref (ad (b1 + 6)), .ref (ad (b1 + 13)), .ref (ad (b1 + 23)), .ref (ad (b1 + 27)), .int ((sU S1 0 q29.2) 4 1 0)]))], (w_X6 ad (b1 + 1) cs ((sU S1 0 q29.2) 0)), (w_X1 ad (b1 + 6) cs ((sU S1 0 q29.2) 1)), (w_X4 ad (b1 + 13) cs ((sU S1 0 q29.2) 2)), (w_X8 ad (b1 + 23) cs ((sU S1 0 q29.2) 3)), [((ad (b1 + 27)), .inl (cs 0, 3, .inl ((sU S1 0 q29.2) 4 0)))]]) (Wc := [(w_X6 ad (b1 + 1) cs (S1 0))]) (Wc' := [(w_X6 ad (b1 + 1) cs q29.2)]) (is := [1]) (js := [0, 2, 3, 4, 5]) ⟨hx, hb, hml, hown, hts⟩ (k_X6_add l dC dI cs ad (b1 + 1) s.heap.size (S1 0) p1 p2 q29.1 q29.2 gq29) (cwV 2 hts gX5_addStation_X6_add rfl rfl rfl cd_X6_add ⟨Nat.le_of_ble_eq_true rfl, Nat.le_of_ble_eq_true rfl⟩) hK hP hD hS hA ⟨rfl, rfl, rfl, rfl, rfl, rfl⟩ (jn_nd (is := [1]) hD rfl rfl) 1 5 rfl rfl rfl rfl rfl hl.1 (Nat.le_of_ble_eq_true rfl) dX5_addStation_29 (fun H29 locs29 hP' hD' hS' => ?_)
          replace hS := hS'
          have hP' : va_P (dC, dI) vwCl (fl [(w_X5 ad (b1) cs (sU S1 0 q29.2))]) H29 := hP'
          have hD' : va_D A (fl [(w_X5 ad (b1) cs (sU S1 0 q29.2))]) := hD'
          replace hR := bn_e hR
          obtain ⟨S1_29, eS1_29, hR⟩ := hR
          replace hP : va_P (dC, dI) vwCl (fl [(w_X5 ad (b1) cs S1_29)]) H29 := by rw [eS1_29]; exact hP'
          replace hD : va_D A (fl [(w_X5 ad (b1) cs S1_29)]) := by rw [eS1_29]; exact hD'
          clear hP' hD' hS'
          replace hR := Option.some.inj hR
          obtain ⟨e9, hR⟩ := Prod.mk.inj hR
          have eu1 := hR
          replace hP : va_P (dC, dI) vwCl (fl [(w_X5 ad (b1) cs u1)]) H29 := by rw [← eu1]; exact hP
          replace hD : va_D A (fl [(w_X5 ad (b1) cs u1)]) := by rw [← eu1]; exact hD
          exact W.iret hx hb hr (fun t ht hW => ⟨⟨_, (), rfl, e9, by rw [ht]; exact hP, va_K.moved hW.alike hK, hD⟩, hS.F ht⟩) hS.2.2 dX5_addStation_32
        · replace hR := it_f hR c18
          refine lv_iconst (v := (-1)) hx hb dX5_addStation_21 ic_m1 ?_
          replace hR := Option.some.inj hR
          obtain ⟨e9, hR⟩ := Prod.mk.inj hR
          have eu1 := hR
          replace hP : va_P (dC, dI) vwCl (fl [(w_X5 ad (b1) cs u1)]) s.heap := by rw [← eu1]; exact hP
          replace hD : va_D A (fl [(w_X5 ad (b1) cs u1)]) := by rw [← eu1]; exact hD
          exact W.iret hx hb hr (fun t ht hW => ⟨⟨_, (), rfl, e9, by rw [ht]; exact hP, va_K.moved hW.alike hK, hD⟩, hS.F ht⟩) hS.2.2 dX5_addStation_22
set_option maxHeartbeats 8000000 in
set_option maxRecDepth 100000 in
theorem k_X5_addBicycle (l : Launch) (dC : Nat → ClassId) (dI : Nat → Nat → Nat) (cs : Nat → ClassId) (ad : Nat → Nat) (b1 : Nat) (sz : Nat) (S1 : T3) (p1 : Int32) (r : Int32) (u1 : T3) (hR : fX5_addBicycle S1 p1 = some (r, u1)) : Met l yX5_addBicycle wsX5_addBicycle ({ frames := 3, cells := 0, slots := 0, locals := 66 } : Room) (va_Pc [.ref (ad b1), .int p1] (pW dC dI (tyL cs) (fl [(w_X5 ad (b1) cs S1)]) sz)) (QI dC dI (tyL cs) (va_A (fl [(w_X5 ad (b1) cs S1)]) sz) (fl [(w_X5 ad (b1) cs u1)]) r) 0 0 (va_A (fl [(w_X5 ad (b1) cs S1)]) sz) := by
  refine mt_of (own := RX5) (cc := cX5_addBicycle) (maxL := 2) (ret := (some .int)) (Qc := fun A => QI dC dI (tyL cs) A (fl [(w_X5 ad (b1) cs u1)]) r) rfl (by decide) rfl (Nat.le_of_ble_eq_true rfl) (fun p e s m below meth c A ls hsz hx hb hr hts hown hlocks hml hA hK hP hD hS hl => ?_)
  subst hsz
  have hl : lv_has ls 2 [(0, .ref (ad b1)), (1, .int p1)] := hl
  have hF12 := hts (.fieldLink RX5 12 "DockedBikes$Road" "stations" "LDockedBikes$Stations;") (List.mem_of_getElem? (i := 1) rfl)
  have hF21 := hts (.fieldLink RX5 21 "DockedBikes$Road" "bicycles" "LDockedBikes$Bicycles;") (List.mem_of_getElem? (i := 2) rfl)
  have hinX5 : ∀ w ∈ wsX50, w ∈ wsX5_addBicycle := by decide +kernel
  refine lv_aload_n hx hb dX5_addBicycle_0 rfl (lv_at hl 0 rfl) ?_
  refine va_get (D := (dC, dI)) (ci := 4) (v := .ref (ad (b1 + 1))) (C := RX5) (T := TX5) (N := 6) hx hb hts hinX5 hown hK hP 0 rfl rfl 0 (by decide) hF12 (fun _ h9 => h9) rfl dX5_addBicycle_1 ?_
  refine lv_iload_n hx hb dX5_addBicycle_4 rfl (lv_at hl 1 rfl) ?_
  replace hR := bd_e hR
  obtain ⟨q5, gq5, hR⟩ := hR
  replace hP : va_P (dC, dI) vwCl (fl [[((ad b1), .inr (4, [.ref (ad (b1 + 1)), .ref (ad (b1 + 6)), .ref (ad (b1 + 13)), .ref (ad (b1 + 23)), .ref (ad (b1 + 27)), .int (S1 4 1 0)]))], (w_X6 ad (b1 + 1) cs (S1 0)), (w_X1 ad (b1 + 6) cs (S1 1)), (w_X4 ad (b1 + 13) cs (S1 2)), (w_X8 ad (b1 + 23) cs (S1 3)), [((ad (b1 + 27)), .inl (cs 0, 3, .inl (S1 4 0)))]]) s.heap := hP
  replace hD : va_D A (fl [[((ad b1), .inr (4, [.ref (ad (b1 + 1)), .ref (ad (b1 + 6)), .ref (ad (b1 + 13)), .ref (ad (b1 + 23)), .ref (ad (b1 + 27)), .int (S1 4 1 0)]))], (w_X6 ad (b1 + 1) cs (S1 0)), (w_X1 ad (b1 + 6) cs (S1 1)), (w_X4 ad (b1 + 13) cs (S1 2)), (w_X8 ad (b1 + 23) cs (S1 3)), [((ad (b1 + 27)), .inl (cs 0, 3, .inl (S1 4 0)))]]) := hD
  refine cl_Vi (As := [.int p1]) (rest := []) (L := [[((ad b1), .inr (4, [.ref (ad (b1 + 1)), .ref (ad (b1 + 6)), .ref (ad (b1 + 13)), .ref (ad (b1 + 23)), .ref (ad (b1 + 27)), .int (S1 4 1 0)]))], (w_X6 ad (b1 + 1) cs (S1 0)), (w_X1 ad (b1 + 6) cs (S1 1)), (w_X4 ad (b1 + 13) cs (S1 2)), (w_X8 ad (b1 + 23) cs (S1 3)), [((ad (b1 + 27)), .inl (cs 0, 3, .inl (S1 4 0)))]]) (L' := [[((ad b1), .inr (4, [.ref (ad (b1 + 1)), .ref (ad (b1 + 6)), .ref (ad (b1 + 13)), .ref (ad (b1 + 23)), .ref (ad (b1 + 27)), .int (S1 4 1 0)]))], (w_X6 ad (b1 + 1) cs (S1 0)), (w_X1 ad (b1 + 6) cs (S1 1)), (w_X4 ad (b1 + 13) cs (S1 2)), (w_X8 ad (b1 + 23) cs (S1 3)), [((ad (b1 + 27)), .inl (cs 0, 3, .inl (S1 4 0)))]]) (Wc := [(w_X6 ad (b1 + 1) cs (S1 0))]) (Wc' := [(w_X6 ad (b1 + 1) cs (S1 0))]) (is := [1]) (js := [0, 2, 3, 4, 5]) ⟨hx, hb, hml, hown, hts⟩ (k_X6_has l dC dI cs ad (b1 + 1) s.heap.size (S1 0) p1 q5 gq5) (cwV 1 hts gX5_addBicycle_X6_has rfl rfl rfl cd_X6_has ⟨Nat.le_of_ble_eq_true rfl, Nat.le_of_ble_eq_true rfl⟩) hK hP hD hS hA ⟨rfl, rfl, rfl, rfl, rfl, rfl⟩ (jn_nd (is := [1]) hD rfl rfl) 1 5 rfl rfl rfl rfl rfl hl.1 (Nat.le_of_ble_eq_true rfl) dX5_addBicycle_5 (fun H5 locs5 hP' hD' hS' => ?_)
  replace hS := hS'
  replace hP : va_P (dC, dI) vwCl (fl [(w_X5 ad (b1) cs S1)]) H5 := hP'
  replace hD : va_D A (fl [(w_X5 ad (b1) cs S1)]) := hD'
  clear hP' hD' hS'
  refine lv_if_ne (tgt := 13) hx hb dX5_addBicycle_8 (by decide) (fun c8 => ?_) (fun c8 => ?_)
  · replace hR := it_f hR c8
    refine lv_aload_n hx hb dX5_addBicycle_13 rfl (lv_at hl 0 rfl) ?_
    refine lv_iload_n hx hb dX5_addBicycle_14 rfl (lv_at hl 1 rfl) ?_
    replace hR := bd_e hR
    obtain ⟨q15, gq15, hR⟩ := hR
    refine cl_Vi (As := [.int p1]) (rest := []) (L := [(w_X5 ad (b1) cs S1)]) (L' := [(w_X5 ad (b1) cs S1)]) (Wc := [(w_X5 ad (b1) cs S1)]) (Wc' := [(w_X5 ad (b1) cs S1)]) (is := [0]) (js := []) ⟨hx, hb, hml, hown, hts⟩ (k_X5_hasFreeDock l dC dI cs ad (b1) H5.size S1 p1 q15 gq15) (cwV 1 hts gX5_addBicycle_X5_hasFreeDock rfl rfl rfl cd_X5_hasFreeDock ⟨Nat.le_of_ble_eq_true rfl, Nat.le_of_ble_eq_true rfl⟩) hK hP hD hS hA ⟨rfl, rfl, rfl, rfl, rfl, rfl⟩ (jn_nd (is := [0]) hD rfl rfl) 0 4 rfl rfl rfl rfl rfl hl.1 (Nat.le_of_ble_eq_true rfl) dX5_addBicycle_15 (fun H15 locs15 hP' hD' hS' => ?_)
    replace hS := hS'
    replace hP : va_P (dC, dI) vwCl (fl [(w_X5 ad (b1) cs S1)]) H15 := hP'
    replace hD : va_D A (fl [(w_X5 ad (b1) cs S1)]) := hD'
    clear hP' hD' hS'
    refine lv_if_eq (tgt := 32) hx hb dX5_addBicycle_18 (by decide) (fun c18 => ?_) (fun c18 => ?_)
    · replace hR := it_t hR c18
      refine lv_bipush (v := (-2)) hx hb dX5_addBicycle_32 bp_m2 ?_
      replace hR := Option.some.inj hR
      obtain ⟨e9, hR⟩ := Prod.mk.inj hR
      have eu1 := hR
      replace hP : va_P (dC, dI) vwCl (fl [(w_X5 ad (b1) cs u1)]) H15 := by rw [← eu1]; exact hP
      replace hD : va_D A (fl [(w_X5 ad (b1) cs u1)]) := by rw [← eu1]; exact hD
      exact W.iret hx hb hr (fun t ht hW => ⟨⟨_, (), rfl, e9, by rw [ht]; exact hP, va_K.moved hW.alike hK, hD⟩, hS.F ht⟩) hS.2.2 dX5_addBicycle_34
    · replace hR := it_f hR c18
      refine lv_aload_n hx hb dX5_addBicycle_21 rfl (lv_at hl 0 rfl) ?_
      refine va_get (D := (dC, dI)) (ci := 4) (v := .ref (ad (b1 + 6))) (C := RX5) (T := TX5) (N := 6) hx hb hts hinX5 hown hK hP 0 rfl rfl 1 (by decide) hF21 (fun _ h9 => h9) rfl dX5_addBicycle_22 ?_
      refine lv_iload_n hx hb dX5_addBicycle_25 rfl (lv_at hl 1 rfl) ?_
      replace hR := bd_e hR
      obtain ⟨q26, gq26, hR⟩ := hR
      replace hP : va_P (dC, dI) vwCl (fl [[((ad b1), .inr (4, [.ref (ad (b1 + 1)), .ref (ad (b1 + 6)), .ref (ad (b1 + 13)), .ref (ad (b1 + 23)), .ref (ad (b1 + 27)), .int (S1 4 1 0)]))], (w_X6 ad (b1 + 1) cs (S1 0)), (w_X1 ad (b1 + 6) cs (S1 1)), (w_X4 ad (b1 + 13) cs (S1 2)), (w_X8 ad (b1 + 23) cs (S1 3)), [((ad (b1 + 27)), .inl (cs 0, 3, .inl (S1 4 0)))]]) H15 := hP
      replace hD : va_D A (fl [[((ad b1), .inr (4, [.ref (ad (b1 + 1)), .ref (ad (b1 + 6)), .ref (ad (b1 + 13)), .ref (ad (b1 + 23)), .ref (ad (b1 + 27)), .int (S1 4 1 0)]))], (w_X6 ad (b1 + 1) cs (S1 0)), (w_X1 ad (b1 + 6) cs (S1 1)), (w_X4 ad (b1 + 13) cs (S1 2)), (w_X8 ad (b1 + 23) cs (S1 3)), [((ad (b1 + 27)), .inl (cs 0, 3, .inl (S1 4 0)))]]) := hD
      refine cl_Vi (As := [.int p1]) (rest := []) (L := [[((ad b1), .inr (4, [.ref (ad (b1 + 1)), .ref (ad (b1 + 6)), .ref (ad (b1 + 13)), .ref (ad (b1 + 23)), .ref (ad (b1 + 27)), .int (S1 4 1 0)]))], (w_X6 ad (b1 + 1) cs (S1 0)), (w_X1 ad (b1 + 6) cs (S1 1)), (w_X4 ad (b1 + 13) cs (S1 2)), (w_X8 ad (b1 + 23) cs (S1 3)), [((ad (b1 + 27)), .inl (cs 0, 3, .inl (S1 4 0)))]]) (L' := [[((ad b1), .inr (4, [.ref (ad (b1 + 1)), .ref (ad (b1 + 6)), .ref (ad (b1 + 13)), .ref (ad (b1 + 23)), .ref (ad (b1 + 27)), .int ((sU S1 1 q26.2) 4 1 0)]))], (w_X6 ad (b1 + 1) cs ((sU S1 1 q26.2) 0)), (w_X1 ad (b1 + 6) cs ((sU S1 1 q26.2) 1)), (w_X4 ad (b1 + 13) cs ((sU S1 1 q26.2) 2)), (w_X8 ad (b1 + 23) cs ((sU S1 1 q26.2) 3)), [((ad (b1 + 27)), .inl (cs 0, 3, .inl ((sU S1 1 q26.2) 4 0)))]]) (Wc := [(w_X1 ad (b1 + 6) cs (S1 1))]) (Wc' := [(w_X1 ad (b1 + 6) cs q26.2)]) (is := [2]) (js := [0, 1, 3, 4, 5]) ⟨hx, hb, hml, hown, hts⟩ (k_X1_add l dC dI cs ad (b1 + 6) H15.size (S1 1) p1 q26.1 q26.2 gq26) (cwV 1 hts gX5_addBicycle_X1_add rfl rfl rfl cd_X1_add ⟨Nat.le_of_ble_eq_true rfl, Nat.le_of_ble_eq_true rfl⟩) hK hP hD hS hA ⟨rfl, rfl, rfl, rfl, rfl, rfl⟩ (jn_nd (is := [2]) hD rfl rfl) 6 0 rfl rfl rfl rfl rfl hl.1 (Nat.le_of_ble_eq_true rfl) dX5_addBicycle_26 (fun H26 locs26 hP' hD' hS' => ?_)
      replace hS := hS'
      have hP' : va_P (dC, dI) vwCl (fl [(w_X5 ad (b1) cs (sU S1 1 q26.2))]) H26 := hP'
      have hD' : va_D A (fl [(w_X5 ad (b1) cs (sU S1 1 q26.2))]) := hD'
      replace hR := bn_e hR
      obtain ⟨S1_26, eS1_26, hR⟩ := hR
      replace hP : va_P (dC, dI) vwCl (fl [(w_X5 ad (b1) cs S1_26)]) H26 := by rw [eS1_26]; exact hP'
      replace hD : va_D A (fl [(w_X5 ad (b1) cs S1_26)]) := by rw [eS1_26]; exact hD'
      clear hP' hD' hS'
      refine lv_goto (tgt := 34) hx hb dX5_addBicycle_29 (by decide) ?_
      replace hR := Option.some.inj hR
      obtain ⟨e9, hR⟩ := Prod.mk.inj hR
      have eu1 := hR
      replace hP : va_P (dC, dI) vwCl (fl [(w_X5 ad (b1) cs u1)]) H26 := by rw [← eu1]; exact hP
      replace hD : va_D A (fl [(w_X5 ad (b1) cs u1)]) := by rw [← eu1]; exact hD
      exact W.iret hx hb hr (fun t ht hW => ⟨⟨_, (), rfl, e9, by rw [ht]; exact hP, va_K.moved hW.alike hK, hD⟩, hS.F ht⟩) hS.2.2 dX5_addBicycle_34
  · replace hR := it_t hR c8
    refine lv_iconst (v := (-1)) hx hb dX5_addBicycle_11 ic_m1 ?_
    replace hR := Option.some.inj hR
    obtain ⟨e9, hR⟩ := Prod.mk.inj hR
    have eu1 := hR
    replace hP : va_P (dC, dI) vwCl (fl [(w_X5 ad (b1) cs u1)]) H5 := by rw [← eu1]; exact hP
    replace hD : va_D A (fl [(w_X5 ad (b1) cs u1)]) := by rw [← eu1]; exact hD
    exact W.iret hx hb hr (fun t ht hW => ⟨⟨_, (), rfl, e9, by rw [ht]; exact hP, va_K.moved hW.alike hK, hD⟩, hS.F ht⟩) hS.2.2 dX5_addBicycle_12
set_option maxHeartbeats 8000000 in
set_option maxRecDepth 100000 in
theorem k_X5_addRider (l : Launch) (dC : Nat → ClassId) (dI : Nat → Nat → Nat) (cs : Nat → ClassId) (ad : Nat → Nat) (b1 : Nat) (sz : Nat) (S1 : T3) (r : Int32) (u1 : T3) (hR : fX5_addRider S1 = some (r, u1)) : Met l yX5_addRider wsX5_addRider ({ frames := 1, cells := 0, slots := 0, locals := 20 } : Room) (va_Pc [.ref (ad b1)] (pW dC dI (tyL cs) (fl [(w_X5 ad (b1) cs S1)]) sz)) (QI dC dI (tyL cs) (va_A (fl [(w_X5 ad (b1) cs S1)]) sz) (fl [(w_X5 ad (b1) cs u1)]) r) 0 0 (va_A (fl [(w_X5 ad (b1) cs S1)]) sz) := by
  refine mt_of (own := RX5) (cc := cX5_addRider) (maxL := 1) (ret := (some .int)) (Qc := fun A => QI dC dI (tyL cs) A (fl [(w_X5 ad (b1) cs u1)]) r) rfl (by decide) rfl (Nat.le_of_ble_eq_true rfl) (fun p e s m below meth c A ls hsz hx hb hr hts hown hlocks hml hA hK hP hD hS hl => ?_)
  subst hsz
  have hl : lv_has ls 1 [(0, .ref (ad b1))] := hl
  have hF28 := hts (.fieldLink RX5 28 "DockedBikes$Road" "riders" "LDockedBikes$Riders;") (List.mem_of_getElem? (i := 1) rfl)
  have hinX5 : ∀ w ∈ wsX50, w ∈ wsX5_addRider := by decide +kernel
  refine lv_aload_n hx hb dX5_addRider_0 rfl (lv_at hl 0 rfl) ?_
  refine va_get (D := (dC, dI)) (ci := 4) (v := .ref (ad (b1 + 13))) (C := RX5) (T := TX5) (N := 6) hx hb hts hinX5 hown hK hP 0 rfl rfl 2 (by decide) hF28 (fun _ h9 => h9) rfl dX5_addRider_1 ?_
  replace hR := bd_e hR
  obtain ⟨q4, gq4, hR⟩ := hR
  replace hP : va_P (dC, dI) vwCl (fl [[((ad b1), .inr (4, [.ref (ad (b1 + 1)), .ref (ad (b1 + 6)), .ref (ad (b1 + 13)), .ref (ad (b1 + 23)), .ref (ad (b1 + 27)), .int (S1 4 1 0)]))], (w_X6 ad (b1 + 1) cs (S1 0)), (w_X1 ad (b1 + 6) cs (S1 1)), (w_X4 ad (b1 + 13) cs (S1 2)), (w_X8 ad (b1 + 23) cs (S1 3)), [((ad (b1 + 27)), .inl (cs 0, 3, .inl (S1 4 0)))]]) s.heap := hP
  replace hD : va_D A (fl [[((ad b1), .inr (4, [.ref (ad (b1 + 1)), .ref (ad (b1 + 6)), .ref (ad (b1 + 13)), .ref (ad (b1 + 23)), .ref (ad (b1 + 27)), .int (S1 4 1 0)]))], (w_X6 ad (b1 + 1) cs (S1 0)), (w_X1 ad (b1 + 6) cs (S1 1)), (w_X4 ad (b1 + 13) cs (S1 2)), (w_X8 ad (b1 + 23) cs (S1 3)), [((ad (b1 + 27)), .inl (cs 0, 3, .inl (S1 4 0)))]]) := hD
  refine cl_Vi (As := []) (rest := []) (L := [[((ad b1), .inr (4, [.ref (ad (b1 + 1)), .ref (ad (b1 + 6)), .ref (ad (b1 + 13)), .ref (ad (b1 + 23)), .ref (ad (b1 + 27)), .int (S1 4 1 0)]))], (w_X6 ad (b1 + 1) cs (S1 0)), (w_X1 ad (b1 + 6) cs (S1 1)), (w_X4 ad (b1 + 13) cs (S1 2)), (w_X8 ad (b1 + 23) cs (S1 3)), [((ad (b1 + 27)), .inl (cs 0, 3, .inl (S1 4 0)))]]) (L' := [[((ad b1), .inr (4, [.ref (ad (b1 + 1)), .ref (ad (b1 + 6)), .ref (ad (b1 + 13)), .ref (ad (b1 + 23)), .ref (ad (b1 + 27)), .int ((sU S1 2 q4.2) 4 1 0)]))], (w_X6 ad (b1 + 1) cs ((sU S1 2 q4.2) 0)), (w_X1 ad (b1 + 6) cs ((sU S1 2 q4.2) 1)), (w_X4 ad (b1 + 13) cs ((sU S1 2 q4.2) 2)), (w_X8 ad (b1 + 23) cs ((sU S1 2 q4.2) 3)), [((ad (b1 + 27)), .inl (cs 0, 3, .inl ((sU S1 2 q4.2) 4 0)))]]) (Wc := [(w_X4 ad (b1 + 13) cs (S1 2))]) (Wc' := [(w_X4 ad (b1 + 13) cs q4.2)]) (is := [3]) (js := [0, 1, 2, 4, 5]) ⟨hx, hb, hml, hown, hts⟩ (k_X4_add l dC dI cs ad (b1 + 13) s.heap.size (S1 2) q4.1 q4.2 gq4) (cwV 0 hts gX5_addRider_X4_add rfl rfl rfl cd_X4_add ⟨Nat.le_of_ble_eq_true rfl, Nat.le_of_ble_eq_true rfl⟩) hK hP hD hS hA ⟨rfl, rfl, rfl, rfl, rfl, rfl⟩ (jn_nd (is := [3]) hD rfl rfl) 13 3 rfl rfl rfl rfl rfl hl.1 (Nat.le_of_ble_eq_true rfl) dX5_addRider_4 (fun H4 locs4 hP' hD' hS' => ?_)
  replace hS := hS'
  have hP' : va_P (dC, dI) vwCl (fl [(w_X5 ad (b1) cs (sU S1 2 q4.2))]) H4 := hP'
  have hD' : va_D A (fl [(w_X5 ad (b1) cs (sU S1 2 q4.2))]) := hD'
  replace hR := bn_e hR
  obtain ⟨S1_4, eS1_4, hR⟩ := hR
  replace hP : va_P (dC, dI) vwCl (fl [(w_X5 ad (b1) cs S1_4)]) H4 := by rw [eS1_4]; exact hP'
  replace hD : va_D A (fl [(w_X5 ad (b1) cs S1_4)]) := by rw [eS1_4]; exact hD'
  clear hP' hD' hS'
  replace hR := Option.some.inj hR
  obtain ⟨e9, hR⟩ := Prod.mk.inj hR
  have eu1 := hR
  replace hP : va_P (dC, dI) vwCl (fl [(w_X5 ad (b1) cs u1)]) H4 := by rw [← eu1]; exact hP
  replace hD : va_D A (fl [(w_X5 ad (b1) cs u1)]) := by rw [← eu1]; exact hD
  exact W.iret hx hb hr (fun t ht hW => ⟨⟨_, (), rfl, e9, by rw [ht]; exact hP, va_K.moved hW.alike hK, hD⟩, hS.F ht⟩) hS.2.2 dX5_addRider_7
set_option maxHeartbeats 8000000 in
set_option maxRecDepth 100000 in
theorem k_X8_add (l : Launch) (dC : Nat → ClassId) (dI : Nat → Nat → Nat) (cs : Nat → ClassId) (ad : Nat → Nat) (b1 : Nat) (sz : Nat) (S1 : T2) (p1 : Int32) (p2 : Int32) (r : Int32) (u1 : T2) (hR : fX8_add S1 p1 p2 = some (r, u1)) : Met l yX8_add wsX8_add ({ frames := 0, cells := 0, slots := 0, locals := 0 } : Room) (va_Pc [.ref (ad b1), .int p1, .int p2] (pW dC dI (tyL cs) (fl [(w_X8 ad (b1) cs S1)]) sz)) (QI dC dI (tyL cs) (va_A (fl [(w_X8 ad (b1) cs S1)]) sz) (fl [(w_X8 ad (b1) cs u1)]) r) 0 0 (va_A (fl [(w_X8 ad (b1) cs S1)]) sz) := by
  refine mt_of (own := RX8) (cc := cX8_add) (maxL := 3) (ret := (some .int)) (Qc := fun A => QI dC dI (tyL cs) A (fl [(w_X8 ad (b1) cs u1)]) r) rfl (by decide) rfl (Nat.le_of_ble_eq_true rfl) (fun p e s m below meth c A ls hsz hx hb hr hts hown hlocks hml hA hK hP hD hS hl => ?_)
  subst hsz
  have hl : lv_has ls 3 [(0, .ref (ad b1)), (1, .int p1), (2, .int p2)] := hl
  have hF11 := hts (.fieldLink RX8 11 "DockedBikes$Vans" "station" "[I") (List.mem_of_getElem? (i := 2) rfl)
  have hF15 := hts (.fieldLink RX8 15 "DockedBikes$Vans" "room" "[I") (List.mem_of_getElem? (i := 3) rfl)
  have hF21 := hts (.fieldLink RX8 21 "DockedBikes$Vans" "size" "I") (List.mem_of_getElem? (i := 1) rfl)
  have hinX8 : ∀ w ∈ wsX80, w ∈ wsX8_add := by decide +kernel
  refine lv_aload_n hx hb dX8_add_0 rfl (lv_at hl 0 rfl) ?_
  refine va_get (D := (dC, dI)) (ci := 7) (v := .int (S1 3 0)) (C := RX8) (T := TX8) (N := 4) hx hb hts hinX8 hown hK hP 0 rfl rfl 0 (by decide) hF21 (fun _ h9 => h9) rfl dX8_add_1 ?_
  refine lv_iconst (v := 2) hx hb dX8_add_4 ic_2 ?_
  refine lv_icmp_lt (tgt := 11) hx hb dX8_add_5 (by decide) (fun c5 => ?_) (fun c5 => ?_)
  · replace hR := it_t hR c5
    refine lv_aload_n hx hb dX8_add_11 rfl (lv_at hl 0 rfl) ?_
    refine va_get (D := (dC, dI)) (ci := 7) (v := .ref (ad (b1 + 1))) (C := RX8) (T := TX8) (N := 4) hx hb hts hinX8 hown hK hP 0 rfl rfl 1 (by decide) hF11 (fun _ h9 => h9) rfl dX8_add_12 ?_
    refine lv_aload_n hx hb dX8_add_15 rfl (lv_at hl 0 rfl) ?_
    refine va_get (D := (dC, dI)) (ci := 7) (v := .int (S1 3 0)) (C := RX8) (T := TX8) (N := 4) hx hb hts hinX8 hown hK hP 0 rfl rfl 0 (by decide) hF21 (fun _ h9 => h9) rfl dX8_add_16 ?_
    refine lv_iload_n hx hb dX8_add_19 rfl (lv_at hl 1 rfl) ?_
    replace hR := gi_e hR
    obtain ⟨i20, hR⟩ := hR
    refine va_iast hx hb hK hP hD hS 1 0 rfl rfl i20 dX8_add_20 (fun H20 locs20 hP' hD' hS' => ?_)
    replace hS := hS'
    have hP' : va_P (dC, dI) vwCl (fl [(w_X8 ad (b1) cs (sU S1 0 (sU (S1 0) (S1 3 0).toNatClampNeg p1)))]) H20 := hP'
    have hD' : va_D A (fl [(w_X8 ad (b1) cs (sU S1 0 (sU (S1 0) (S1 3 0).toNatClampNeg p1)))]) := hD'
    replace hR := bn_e hR
    obtain ⟨S1_20, eS1_20, hR⟩ := hR
    replace hP : va_P (dC, dI) vwCl (fl [(w_X8 ad (b1) cs S1_20)]) H20 := by rw [eS1_20]; exact hP'
    replace hD : va_D A (fl [(w_X8 ad (b1) cs S1_20)]) := by rw [eS1_20]; exact hD'
    clear hP' hD' hS'
    refine lv_aload_n hx hb dX8_add_21 rfl (lv_at hl 0 rfl) ?_
    refine va_get (D := (dC, dI)) (ci := 7) (v := .ref (ad (b1 + 2))) (C := RX8) (T := TX8) (N := 4) hx hb hts hinX8 hown hK hP 0 rfl rfl 2 (by decide) hF15 (fun _ h9 => h9) rfl dX8_add_22 ?_
    refine lv_aload_n hx hb dX8_add_25 rfl (lv_at hl 0 rfl) ?_
    refine va_get (D := (dC, dI)) (ci := 7) (v := .int (S1_20 3 0)) (C := RX8) (T := TX8) (N := 4) hx hb hts hinX8 hown hK hP 0 rfl rfl 0 (by decide) hF21 (fun _ h9 => h9) rfl dX8_add_26 ?_
    refine lv_iload_n hx hb dX8_add_29 rfl (lv_at hl 2 rfl) ?_
    replace hR := gi_e hR
    obtain ⟨i30, hR⟩ := hR
    refine va_iast hx hb hK hP hD hS 2 0 rfl rfl i30 dX8_add_30 (fun H30 locs30 hP' hD' hS' => ?_)
    replace hS := hS'
    have hP' : va_P (dC, dI) vwCl (fl [(w_X8 ad (b1) cs (sU S1_20 1 (sU (S1_20 1) (S1_20 3 0).toNatClampNeg p2)))]) H30 := hP'
    have hD' : va_D A (fl [(w_X8 ad (b1) cs (sU S1_20 1 (sU (S1_20 1) (S1_20 3 0).toNatClampNeg p2)))]) := hD'
    replace hR := bn_e hR
    obtain ⟨S1_30, eS1_30, hR⟩ := hR
    replace hP : va_P (dC, dI) vwCl (fl [(w_X8 ad (b1) cs S1_30)]) H30 := by rw [eS1_30]; exact hP'
    replace hD : va_D A (fl [(w_X8 ad (b1) cs S1_30)]) := by rw [eS1_30]; exact hD'
    clear hP' hD' hS'
    refine lv_aload_n hx hb dX8_add_31 rfl (lv_at hl 0 rfl) ?_
    refine lv_dup hx hb dX8_add_32 rfl ?_
    refine va_get (D := (dC, dI)) (ci := 7) (v := .int (S1_30 3 0)) (C := RX8) (T := TX8) (N := 4) hx hb hts hinX8 hown hK hP 0 rfl rfl 0 (by decide) hF21 (fun _ h9 => h9) rfl dX8_add_33 ?_
    refine lv_iconst (v := 1) hx hb dX8_add_36 ic_1 ?_
    refine lv_iadd hx hb dX8_add_37 ?_
    refine va_put (D := (dC, dI)) (ci := 7) (v := .int ((S1_30 3 0) + 1)) (ty := .int) (C := RX8) (T := TX8) (N := 4) hx hb hts hinX8 tyX8 tyX8_ok nmX8 hown hK hP hD hS 0 rfl rfl 0 (by decide) hF21 (fun _ h9 => h9) rfl (by decide +kernel) rfl rfl (Nat.le_of_ble_eq_true rfl) dX8_add_38 (fun H38 locs38 hP' hD' hS' => ?_)
    replace hS := hS'
    have hP' : va_P (dC, dI) vwCl (fl [(w_X8 ad (b1) cs (sU S1_30 3 (sU (S1_30 3) 0 ((S1_30 3 0) + 1))))]) H38 := hP'
    have hD' : va_D A (fl [(w_X8 ad (b1) cs (sU S1_30 3 (sU (S1_30 3) 0 ((S1_30 3 0) + 1))))]) := hD'
    replace hR := bn_e hR
    obtain ⟨S1_38, eS1_38, hR⟩ := hR
    replace hP : va_P (dC, dI) vwCl (fl [(w_X8 ad (b1) cs S1_38)]) H38 := by rw [eS1_38]; exact hP'
    replace hD : va_D A (fl [(w_X8 ad (b1) cs S1_38)]) := by rw [eS1_38]; exact hD'
    clear hP' hD' hS'
    refine lv_aload_n hx hb dX8_add_41 rfl (lv_at hl 0 rfl) ?_
    refine va_get (D := (dC, dI)) (ci := 7) (v := .int (S1_38 3 0)) (C := RX8) (T := TX8) (N := 4) hx hb hts hinX8 hown hK hP 0 rfl rfl 0 (by decide) hF21 (fun _ h9 => h9) rfl dX8_add_42 ?_
    refine lv_iconst (v := 1) hx hb dX8_add_45 ic_1 ?_
    refine lv_isub hx hb dX8_add_46 ?_
    replace hR := Option.some.inj hR
    obtain ⟨e9, hR⟩ := Prod.mk.inj hR
    have eu1 := hR
    replace hP : va_P (dC, dI) vwCl (fl [(w_X8 ad (b1) cs u1)]) H38 := by rw [← eu1]; exact hP
    replace hD : va_D A (fl [(w_X8 ad (b1) cs u1)]) := by rw [← eu1]; exact hD
    exact W.iret hx hb hr (fun t ht hW => ⟨⟨_, (), rfl, e9, by rw [ht]; exact hP, va_K.moved hW.alike hK, hD⟩, hS.F ht⟩) hS.2.2 dX8_add_47
  · replace hR := it_f hR c5
    refine lv_bipush (v := (-3)) hx hb dX8_add_8 bp_m3 ?_
    replace hR := Option.some.inj hR
    obtain ⟨e9, hR⟩ := Prod.mk.inj hR
    have eu1 := hR
    replace hP : va_P (dC, dI) vwCl (fl [(w_X8 ad (b1) cs u1)]) s.heap := by rw [← eu1]; exact hP
    replace hD : va_D A (fl [(w_X8 ad (b1) cs u1)]) := by rw [← eu1]; exact hD
    exact W.iret hx hb hr (fun t ht hW => ⟨⟨_, (), rfl, e9, by rw [ht]; exact hP, va_K.moved hW.alike hK, hD⟩, hS.F ht⟩) hS.2.2 dX8_add_10
set_option maxHeartbeats 8000000 in
set_option maxRecDepth 100000 in
theorem k_X5_addVan (l : Launch) (dC : Nat → ClassId) (dI : Nat → Nat → Nat) (cs : Nat → ClassId) (ad : Nat → Nat) (b1 : Nat) (sz : Nat) (S1 : T3) (p1 : Int32) (p2 : Int32) (r : Int32) (u1 : T3) (hR : fX5_addVan S1 p1 p2 = some (r, u1)) : Met l yX5_addVan wsX5_addVan ({ frames := 1, cells := 0, slots := 0, locals := 22 } : Room) (va_Pc [.ref (ad b1), .int p1, .int p2] (pW dC dI (tyL cs) (fl [(w_X5 ad (b1) cs S1)]) sz)) (QI dC dI (tyL cs) (va_A (fl [(w_X5 ad (b1) cs S1)]) sz) (fl [(w_X5 ad (b1) cs u1)]) r) 0 0 (va_A (fl [(w_X5 ad (b1) cs S1)]) sz) := by
  refine mt_of (own := RX5) (cc := cX5_addVan) (maxL := 3) (ret := (some .int)) (Qc := fun A => QI dC dI (tyL cs) A (fl [(w_X5 ad (b1) cs u1)]) r) rfl (by decide) rfl (Nat.le_of_ble_eq_true rfl) (fun p e s m below meth c A ls hsz hx hb hr hts hown hlocks hml hA hK hP hD hS hl => ?_)
  subst hsz
  have hl : lv_has ls 3 [(0, .ref (ad b1)), (1, .int p1), (2, .int p2)] := hl
  have hF12 := hts (.fieldLink RX5 12 "DockedBikes$Road" "stations" "LDockedBikes$Stations;") (List.mem_of_getElem? (i := 1) rfl)
  have hF35 := hts (.fieldLink RX5 35 "DockedBikes$Road" "vans" "LDockedBikes$Vans;") (List.mem_of_getElem? (i := 2) rfl)
  have hinX5 : ∀ w ∈ wsX50, w ∈ wsX5_addVan := by decide +kernel
  refine lv_aload_n hx hb dX5_addVan_0 rfl (lv_at hl 0 rfl) ?_
  refine va_get (D := (dC, dI)) (ci := 4) (v := .ref (ad (b1 + 1))) (C := RX5) (T := TX5) (N := 6) hx hb hts hinX5 hown hK hP 0 rfl rfl 0 (by decide) hF12 (fun _ h9 => h9) rfl dX5_addVan_1 ?_
  refine lv_iload_n hx hb dX5_addVan_4 rfl (lv_at hl 1 rfl) ?_
  replace hR := bd_e hR
  obtain ⟨q5, gq5, hR⟩ := hR
  replace hP : va_P (dC, dI) vwCl (fl [[((ad b1), .inr (4, [.ref (ad (b1 + 1)), .ref (ad (b1 + 6)), .ref (ad (b1 + 13)), .ref (ad (b1 + 23)), .ref (ad (b1 + 27)), .int (S1 4 1 0)]))], (w_X6 ad (b1 + 1) cs (S1 0)), (w_X1 ad (b1 + 6) cs (S1 1)), (w_X4 ad (b1 + 13) cs (S1 2)), (w_X8 ad (b1 + 23) cs (S1 3)), [((ad (b1 + 27)), .inl (cs 0, 3, .inl (S1 4 0)))]]) s.heap := hP
  replace hD : va_D A (fl [[((ad b1), .inr (4, [.ref (ad (b1 + 1)), .ref (ad (b1 + 6)), .ref (ad (b1 + 13)), .ref (ad (b1 + 23)), .ref (ad (b1 + 27)), .int (S1 4 1 0)]))], (w_X6 ad (b1 + 1) cs (S1 0)), (w_X1 ad (b1 + 6) cs (S1 1)), (w_X4 ad (b1 + 13) cs (S1 2)), (w_X8 ad (b1 + 23) cs (S1 3)), [((ad (b1 + 27)), .inl (cs 0, 3, .inl (S1 4 0)))]]) := hD
  refine cl_Vi (As := [.int p1]) (rest := []) (L := [[((ad b1), .inr (4, [.ref (ad (b1 + 1)), .ref (ad (b1 + 6)), .ref (ad (b1 + 13)), .ref (ad (b1 + 23)), .ref (ad (b1 + 27)), .int (S1 4 1 0)]))], (w_X6 ad (b1 + 1) cs (S1 0)), (w_X1 ad (b1 + 6) cs (S1 1)), (w_X4 ad (b1 + 13) cs (S1 2)), (w_X8 ad (b1 + 23) cs (S1 3)), [((ad (b1 + 27)), .inl (cs 0, 3, .inl (S1 4 0)))]]) (L' := [[((ad b1), .inr (4, [.ref (ad (b1 + 1)), .ref (ad (b1 + 6)), .ref (ad (b1 + 13)), .ref (ad (b1 + 23)), .ref (ad (b1 + 27)), .int (S1 4 1 0)]))], (w_X6 ad (b1 + 1) cs (S1 0)), (w_X1 ad (b1 + 6) cs (S1 1)), (w_X4 ad (b1 + 13) cs (S1 2)), (w_X8 ad (b1 + 23) cs (S1 3)), [((ad (b1 + 27)), .inl (cs 0, 3, .inl (S1 4 0)))]]) (Wc := [(w_X6 ad (b1 + 1) cs (S1 0))]) (Wc' := [(w_X6 ad (b1 + 1) cs (S1 0))]) (is := [1]) (js := [0, 2, 3, 4, 5]) ⟨hx, hb, hml, hown, hts⟩ (k_X6_has l dC dI cs ad (b1 + 1) s.heap.size (S1 0) p1 q5 gq5) (cwV 1 hts gX5_addVan_X6_has rfl rfl rfl cd_X6_has ⟨Nat.le_of_ble_eq_true rfl, Nat.le_of_ble_eq_true rfl⟩) hK hP hD hS hA ⟨rfl, rfl, rfl, rfl, rfl, rfl⟩ (jn_nd (is := [1]) hD rfl rfl) 1 5 rfl rfl rfl rfl rfl hl.1 (Nat.le_of_ble_eq_true rfl) dX5_addVan_5 (fun H5 locs5 hP' hD' hS' => ?_)
  replace hS := hS'
  replace hP : va_P (dC, dI) vwCl (fl [(w_X5 ad (b1) cs S1)]) H5 := hP'
  replace hD : va_D A (fl [(w_X5 ad (b1) cs S1)]) := hD'
  clear hP' hD' hS'
  refine lv_if_eq (tgt := 22) hx hb dX5_addVan_8 (by decide) (fun c8 => ?_) (fun c8 => ?_)
  · replace hR := it_t hR c8
    refine lv_iconst (v := (-1)) hx hb dX5_addVan_22 ic_m1 ?_
    replace hR := Option.some.inj hR
    obtain ⟨e9, hR⟩ := Prod.mk.inj hR
    have eu1 := hR
    replace hP : va_P (dC, dI) vwCl (fl [(w_X5 ad (b1) cs u1)]) H5 := by rw [← eu1]; exact hP
    replace hD : va_D A (fl [(w_X5 ad (b1) cs u1)]) := by rw [← eu1]; exact hD
    exact W.iret hx hb hr (fun t ht hW => ⟨⟨_, (), rfl, e9, by rw [ht]; exact hP, va_K.moved hW.alike hK, hD⟩, hS.F ht⟩) hS.2.2 dX5_addVan_23
  · replace hR := it_f hR c8
    refine lv_iload_n hx hb dX5_addVan_11 rfl (lv_at hl 2 rfl) ?_
    refine lv_iconst (v := 1) hx hb dX5_addVan_12 ic_1 ?_
    refine lv_icmp_lt (tgt := 22) hx hb dX5_addVan_13 (by decide) (fun c13 => ?_) (fun c13 => ?_)
    · replace hR := it_t hR c13
      refine lv_iconst (v := (-1)) hx hb dX5_addVan_22 ic_m1 ?_
      replace hR := Option.some.inj hR
      obtain ⟨e9, hR⟩ := Prod.mk.inj hR
      have eu1 := hR
      replace hP : va_P (dC, dI) vwCl (fl [(w_X5 ad (b1) cs u1)]) H5 := by rw [← eu1]; exact hP
      replace hD : va_D A (fl [(w_X5 ad (b1) cs u1)]) := by rw [← eu1]; exact hD
      exact W.iret hx hb hr (fun t ht hW => ⟨⟨_, (), rfl, e9, by rw [ht]; exact hP, va_K.moved hW.alike hK, hD⟩, hS.F ht⟩) hS.2.2 dX5_addVan_23
    · replace hR := it_f hR c13
      refine lv_iload_n hx hb dX5_addVan_16 rfl (lv_at hl 2 rfl) ?_
      refine lv_bipush (v := 6) hx hb dX5_addVan_17 bp_6 ?_
      refine lv_icmp_le (tgt := 24) hx hb dX5_addVan_19 (by decide) (fun c19 => ?_) (fun c19 => ?_)
      · replace hR := it_t hR c19
        refine lv_aload_n hx hb dX5_addVan_24 rfl (lv_at hl 0 rfl) ?_
        refine va_get (D := (dC, dI)) (ci := 4) (v := .ref (ad (b1 + 23))) (C := RX5) (T := TX5) (N := 6) hx hb hts hinX5 hown hK hP 0 rfl rfl 3 (by decide) hF35 (fun _ h9 => h9) rfl dX5_addVan_25 ?_
        refine lv_iload_n hx hb dX5_addVan_28 rfl (lv_at hl 1 rfl) ?_
        refine lv_iload_n hx hb dX5_addVan_29 rfl (lv_at hl 2 rfl) ?_
        replace hR := bd_e hR
        obtain ⟨q30, gq30, hR⟩ := hR
        replace hP : va_P (dC, dI) vwCl (fl [[((ad b1), .inr (4, [.ref (ad (b1 + 1)), .ref (ad (b1 + 6)), .ref (ad (b1 + 13)), .ref (ad (b1 + 23)), .ref (ad (b1 + 27)), .int (S1 4 1 0)]))], (w_X6 ad (b1 + 1) cs (S1 0)), (w_X1 ad (b1 + 6) cs (S1 1)), (w_X4 ad (b1 + 13) cs (S1 2)), (w_X8 ad (b1 + 23) cs (S1 3)), [((ad (b1 + 27)), .inl (cs 0, 3, .inl (S1 4 0)))]]) H5 := hP
        replace hD : va_D A (fl [[((ad b1), .inr (4, [.ref (ad (b1 + 1)), .ref (ad (b1 + 6)), .ref (ad (b1 + 13)), .ref (ad (b1 + 23)), .ref (ad (b1 + 27)), .int (S1 4 1 0)]))], (w_X6 ad (b1 + 1) cs (S1 0)), (w_X1 ad (b1 + 6) cs (S1 1)), (w_X4 ad (b1 + 13) cs (S1 2)), (w_X8 ad (b1 + 23) cs (S1 3)), [((ad (b1 + 27)), .inl (cs 0, 3, .inl (S1 4 0)))]]) := hD
        refine cl_Vi (As := [.int p1, .int p2]) (rest := []) (L := [[((ad b1), .inr (4, [.ref (ad (b1 + 1)), .ref (ad (b1 + 6)), .ref (ad (b1 + 13)), .ref (ad (b1 + 23)), .ref (ad (b1 + 27)), .int (S1 4 1 0)]))], (w_X6 ad (b1 + 1) cs (S1 0)), (w_X1 ad (b1 + 6) cs (S1 1)), (w_X4 ad (b1 + 13) cs (S1 2)), (w_X8 ad (b1 + 23) cs (S1 3)), [((ad (b1 + 27)), .inl (cs 0, 3, .inl (S1 4 0)))]]) (L' := [[((ad b1), .inr (4, [.ref (ad (b1 + 1)), .ref (ad (b1 + 6)), .ref (ad (b1 + 13)), .ref (ad (b1 + 23)), .ref (ad (b1 + 27)), .int ((sU S1 3 q30.2) 4 1 0)]))], (w_X6 ad (b1 + 1) cs ((sU S1 3 q30.2) 0)), (w_X1 ad (b1 + 6) cs ((sU S1 3 q30.2) 1)), (w_X4 ad (b1 + 13) cs ((sU S1 3 q30.2) 2)), (w_X8 ad (b1 + 23) cs ((sU S1 3 q30.2) 3)), [((ad (b1 + 27)), .inl (cs 0, 3, .inl ((sU S1 3 q30.2) 4 0)))]]) (Wc := [(w_X8 ad (b1 + 23) cs (S1 3))]) (Wc' := [(w_X8 ad (b1 + 23) cs q30.2)]) (is := [4]) (js := [0, 1, 2, 3, 5]) ⟨hx, hb, hml, hown, hts⟩ (k_X8_add l dC dI cs ad (b1 + 23) H5.size (S1 3) p1 p2 q30.1 q30.2 gq30) (cwV 2 hts gX5_addVan_X8_add rfl rfl rfl cd_X8_add ⟨Nat.le_of_ble_eq_true rfl, Nat.le_of_ble_eq_true rfl⟩) hK hP hD hS hA ⟨rfl, rfl, rfl, rfl, rfl, rfl⟩ (jn_nd (is := [4]) hD rfl rfl) 23 7 rfl rfl rfl rfl rfl hl.1 (Nat.le_of_ble_eq_true rfl) dX5_addVan_30 (fun H30 locs30 hP' hD' hS' => ?_)
        replace hS := hS'
        have hP' : va_P (dC, dI) vwCl (fl [(w_X5 ad (b1) cs (sU S1 3 q30.2))]) H30 := hP'
        have hD' : va_D A (fl [(w_X5 ad (b1) cs (sU S1 3 q30.2))]) := hD'
        replace hR := bn_e hR
        obtain ⟨S1_30, eS1_30, hR⟩ := hR
        replace hP : va_P (dC, dI) vwCl (fl [(w_X5 ad (b1) cs S1_30)]) H30 := by rw [eS1_30]; exact hP'
        replace hD : va_D A (fl [(w_X5 ad (b1) cs S1_30)]) := by rw [eS1_30]; exact hD'
        clear hP' hD' hS'
        replace hR := Option.some.inj hR
        obtain ⟨e9, hR⟩ := Prod.mk.inj hR
        have eu1 := hR
        replace hP : va_P (dC, dI) vwCl (fl [(w_X5 ad (b1) cs u1)]) H30 := by rw [← eu1]; exact hP
        replace hD : va_D A (fl [(w_X5 ad (b1) cs u1)]) := by rw [← eu1]; exact hD
        exact W.iret hx hb hr (fun t ht hW => ⟨⟨_, (), rfl, e9, by rw [ht]; exact hP, va_K.moved hW.alike hK, hD⟩, hS.F ht⟩) hS.2.2 dX5_addVan_33
      · replace hR := it_f hR c19
        refine lv_iconst (v := (-1)) hx hb dX5_addVan_22 ic_m1 ?_
        replace hR := Option.some.inj hR
        obtain ⟨e9, hR⟩ := Prod.mk.inj hR
        have eu1 := hR
        replace hP : va_P (dC, dI) vwCl (fl [(w_X5 ad (b1) cs u1)]) H5 := by rw [← eu1]; exact hP
        replace hD : va_D A (fl [(w_X5 ad (b1) cs u1)]) := by rw [← eu1]; exact hD
        exact W.iret hx hb hr (fun t ht hW => ⟨⟨_, (), rfl, e9, by rw [ht]; exact hP, va_K.moved hW.alike hK, hD⟩, hS.F ht⟩) hS.2.2 dX5_addVan_23
