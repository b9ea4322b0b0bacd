set_option maxHeartbeats 8000000 in
set_option maxRecDepth 100000 in
theorem k_X10_station (l : Launch) (dC : Nat → ClassId) (dI : Nat → Nat → Nat) (cs : Nat → ClassId) (ad : Nat → Nat) (en : Nat → Nat) (sz : Nat) (S1 : T5) (p1 : Int32) (p2 : Int32) (r : Int32) (u1 : T5) (hR : fX10_station S1 p1 p2 = some (r, u1)) : Met l yX10_station wsX10_station ({ frames := 5, cells := 0, slots := 0, locals := 115 } : Room) (va_Pc [.ref (ad 0), .int p1, .int p2] (pW dC dI (tyL cs) (fl [(w_X10 ad (0) cs en S1)]) sz)) (QI dC dI (tyL cs) (va_A (fl [(w_X10 ad (0) cs en S1)]) sz) (fl [(w_X10 ad (0) cs en u1)]) r) 0 0 (va_A (fl [(w_X10 ad (0) cs en S1)]) sz) := by
  refine mt_of (own := RX10) (cc := cX10_station) (maxL := 3) (ret := (some .int)) (Qc := fun A => QI dC dI (tyL cs) A (fl [(w_X10 ad (0) cs en u1)]) r) rfl (by decide) rfl (Nat.le_of_ble_eq_true rfl) (fun p e s m below meth c A ls hsz hx hb hr hts hown hlocks hml hA hK hP hD hS hl => ?_)
  subst hsz
  have hl : lv_has ls 3 [(0, .ref (ad 0)), (1, .int p1), (2, .int p2)] := hl
  refine lv_aload_n hx hb dX10_station_0 rfl (lv_at hl 0 rfl) ?_
  refine lv_aload_n hx hb dX10_station_1 rfl (lv_at hl 0 rfl) ?_
  replace hR := bd_e hR
  obtain ⟨q2, gq2, hR⟩ := hR
  refine cl_Va (As := []) (rest := [.ref (ad 0)]) (L := [(w_X10 ad (0) cs en S1)]) (L' := [(w_X10 ad (0) cs en q2)]) (Wc := [(w_X10 ad (0) cs en S1)]) (Wc' := [(w_X10 ad (0) cs en q2)]) (is := [0]) (js := []) ⟨hx, hb, hml, hown, hts⟩ (k_X10_freshDraft l dC dI cs ad en s.heap.size S1 q2 gq2) (cwV 0 hts gX10_station_X10_freshDraft rfl rfl rfl cd_X10_freshDraft ⟨Nat.le_of_ble_eq_true rfl, Nat.le_of_ble_eq_true rfl⟩) hK hP hD hS hA ⟨rfl, rfl, rfl, rfl, rfl, rfl⟩ (jn_nd (is := [0]) hD rfl rfl) 0 8 rfl rfl rfl rfl rfl hl.1 (Nat.le_of_ble_eq_true rfl) dX10_station_2 (fun H2 locs2 hP' hD' hS' => ?_)
  replace hS := hS'
  replace hP : va_P (dC, dI) vwCl (fl [(w_X10 ad (0) cs en q2)]) H2 := hP'
  replace hD : va_D A (fl [(w_X10 ad (0) cs en q2)]) := hD'
  clear hP' hD' hS'
  refine lv_iload_n hx hb dX10_station_5 rfl (lv_at hl 1 rfl) ?_
  refine lv_iload_n hx hb dX10_station_6 rfl (lv_at hl 2 rfl) ?_
  replace hR := bd_e hR
  obtain ⟨q7, gq7, hR⟩ := hR
  replace hP : va_P (dC, dI) vwCl (fl [[((ad 0), .inr (8, [.ref (ad (0 + 1)), .ref (ad (0 + 29)), .ref (ad (0 + 57)), .int (q2 1 3 2 0 0), .ref (ad (0 + 85)), .ref (ad (0 + 199)), .ref (ad (0 + 202))]))], (w_X5 ad (0 + 1) cs (q2 1 0)), (w_X5 ad (0 + 29) cs (q2 1 1)), (w_X5 ad (0 + 57) cs (q2 1 2)), (w_X3 ad (0 + 85) cs (q2 0)), (w_X2 ad (0 + 199) cs (q2 1 3 0)), (w_X7 ad (0 + 202) cs en (q2 1 3 1))]) H2 := hP
  replace hD : va_D A (fl [[((ad 0), .inr (8, [.ref (ad (0 + 1)), .ref (ad (0 + 29)), .ref (ad (0 + 57)), .int (q2 1 3 2 0 0), .ref (ad (0 + 85)), .ref (ad (0 + 199)), .ref (ad (0 + 202))]))], (w_X5 ad (0 + 1) cs (q2 1 0)), (w_X5 ad (0 + 29) cs (q2 1 1)), (w_X5 ad (0 + 57) cs (q2 1 2)), (w_X3 ad (0 + 85) cs (q2 0)), (w_X2 ad (0 + 199) cs (q2 1 3 0)), (w_X7 ad (0 + 202) cs en (q2 1 3 1))]) := hD
  refine cl_Vi (As := [.int p1, .int p2]) (rest := [.ref (ad 0)]) (L := [[((ad 0), .inr (8, [.ref (ad (0 + 1)), .ref (ad (0 + 29)), .ref (ad (0 + 57)), .int (q2 1 3 2 0 0), .ref (ad (0 + 85)), .ref (ad (0 + 199)), .ref (ad (0 + 202))]))], (w_X5 ad (0 + 1) cs (q2 1 0)), (w_X5 ad (0 + 29) cs (q2 1 1)), (w_X5 ad (0 + 57) cs (q2 1 2)), (w_X3 ad (0 + 85) cs (q2 0)), (w_X2 ad (0 + 199) cs (q2 1 3 0)), (w_X7 ad (0 + 202) cs en (q2 1 3 1))]) (L' := [[((ad 0), .inr (8, [.ref (ad (0 + 1)), .ref (ad (0 + 29)), .ref (ad (0 + 57)), .int ((sU q2 1 (sU (q2 1) 1 q7.2)) 1 3 2 0 0), .ref (ad (0 + 85)), .ref (ad (0 + 199)), .ref (ad (0 + 202))]))], (w_X5 ad (0 + 1) cs ((sU q2 1 (sU (q2 1) 1 q7.2)) 1 0)), (w_X5 ad (0 + 29) cs ((sU q2 1 (sU (q2 1) 1 q7.2)) 1 1)), (w_X5 ad (0 + 57) cs ((sU q2 1 (sU (q2 1) 1 q7.2)) 1 2)), (w_X3 ad (0 + 85) cs ((sU q2 1 (sU (q2 1) 1 q7.2)) 0)), (w_X2 ad (0 + 199) cs ((sU q2 1 (sU (q2 1) 1 q7.2)) 1 3 0)), (w_X7 ad (0 + 202) cs en ((sU q2 1 (sU (q2 1) 1 q7.2)) 1 3 1))]) (Wc := [(w_X5 ad (0 + 29) cs (q2 1 1))]) (Wc' := [(w_X5 ad (0 + 29) cs q7.2)]) (is := [2]) (js := [0, 1, 3, 4, 5, 6]) ⟨hx, hb, hml, hown, hts⟩ (k_X5_addStation l dC dI cs ad (0 + 29) H2.size (q2 1 1) p1 p2 q7.1 q7.2 gq7) (cwV 2 hts gX10_station_X5_addStation rfl rfl rfl cd_X5_addStation ⟨Nat.le_of_ble_eq_true rfl, Nat.le_of_ble_eq_true rfl⟩) hK hP hD hS hA ⟨rfl, rfl, rfl, rfl, rfl, rfl⟩ (jn_nd (is := [2]) hD rfl rfl) 29 4 rfl rfl rfl rfl rfl hl.1 (Nat.le_of_ble_eq_true rfl) dX10_station_7 (fun H7 locs7 hP' hD' hS' => ?_)
  replace hS := hS'
  have hP' : va_P (dC, dI) vwCl (fl [(w_X10 ad (0) cs en (sU q2 1 (sU (q2 1) 1 q7.2)))]) H7 := hP'
  have hD' : va_D A (fl [(w_X10 ad (0) cs en (sU q2 1 (sU (q2 1) 1 q7.2)))]) := hD'
  replace hR := bn_e hR
  obtain ⟨S1_7, eS1_7, hR⟩ := hR
  replace hP : va_P (dC, dI) vwCl (fl [(w_X10 ad (0) cs en S1_7)]) H7 := by rw [eS1_7]; exact hP'
  replace hD : va_D A (fl [(w_X10 ad (0) cs en S1_7)]) := by rw [eS1_7]; exact hD'
  clear hP' hD' hS'
  replace hR := bd_e hR
  obtain ⟨q10, gq10, hR⟩ := hR
  refine cl_Vi (As := [.int q7.1]) (rest := []) (L := [(w_X10 ad (0) cs en S1_7)]) (L' := [(w_X10 ad (0) cs en q10.2)]) (Wc := [(w_X10 ad (0) cs en S1_7)]) (Wc' := [(w_X10 ad (0) cs en q10.2)]) (is := [0]) (js := []) ⟨hx, hb, hml, hown, hts⟩ (k_X10_settle l dC dI cs ad en H7.size S1_7 q7.1 q10.1 q10.2 gq10) (cwV 1 hts gX10_station_X10_settle rfl rfl rfl cd_X10_settle ⟨Nat.le_of_ble_eq_true rfl, Nat.le_of_ble_eq_true rfl⟩) hK hP hD hS hA ⟨rfl, rfl, rfl, rfl, rfl, rfl⟩ (jn_nd (is := [0]) hD rfl rfl) 0 8 rfl rfl rfl rfl rfl hl.1 (Nat.le_of_ble_eq_true rfl) dX10_station_10 (fun H10 locs10 hP' hD' hS' => ?_)
  replace hS := hS'
  replace hP : va_P (dC, dI) vwCl (fl [(w_X10 ad (0) cs en q10.2)]) H10 := hP'
  replace hD : va_D A (fl [(w_X10 ad (0) cs en q10.2)]) := hD'
  clear hP' hD' hS'
  replace hR := Option.some.inj hR
  obtain ⟨e9, hR⟩ := Prod.mk.inj hR
  have eu1 := hR
  replace hP : va_P (dC, dI) vwCl (fl [(w_X10 ad (0) cs en u1)]) H10 := by rw [← eu1]; exact hP
  replace hD : va_D A (fl [(w_X10 ad (0) cs en u1)]) := by rw [← eu1]; exact hD
  exact W.iret hx hb hr (fun t ht hW => ⟨⟨_, (), rfl, e9, by rw [ht]; exact hP, va_K.moved hW.alike hK, hD⟩, hS.F ht⟩) hS.2.2 dX10_station_13
set_option maxHeartbeats 8000000 in
set_option maxRecDepth 100000 in
theorem k_X10_bicycle (l : Launch) (dC : Nat → ClassId) (dI : Nat → Nat → Nat) (cs : Nat → ClassId) (ad : Nat → Nat) (en : Nat → Nat) (sz : Nat) (S1 : T5) (p1 : Int32) (r : Int32) (u1 : T5) (hR : fX10_bicycle S1 p1 = some (r, u1)) : Met l yX10_bicycle wsX10_bicycle ({ frames := 5, cells := 0, slots := 0, locals := 115 } : Room) (va_Pc [.ref (ad 0), .int p1] (pW dC dI (tyL cs) (fl [(w_X10 ad (0) cs en S1)]) sz)) (QI dC dI (tyL cs) (va_A (fl [(w_X10 ad (0) cs en S1)]) sz) (fl [(w_X10 ad (0) cs en u1)]) r) 0 0 (va_A (fl [(w_X10 ad (0) cs en S1)]) sz) := by
  refine mt_of (own := RX10) (cc := cX10_bicycle) (maxL := 2) (ret := (some .int)) (Qc := fun A => QI dC dI (tyL cs) A (fl [(w_X10 ad (0) cs en u1)]) r) rfl (by decide) rfl (Nat.le_of_ble_eq_true rfl) (fun p e s m below meth c A ls hsz hx hb hr hts hown hlocks hml hA hK hP hD hS hl => ?_)
  subst hsz
  have hl : lv_has ls 2 [(0, .ref (ad 0)), (1, .int p1)] := hl
  refine lv_aload_n hx hb dX10_bicycle_0 rfl (lv_at hl 0 rfl) ?_
  refine lv_aload_n hx hb dX10_bicycle_1 rfl (lv_at hl 0 rfl) ?_
  replace hR := bd_e hR
  obtain ⟨q2, gq2, hR⟩ := hR
  refine cl_Va (As := []) (rest := [.ref (ad 0)]) (L := [(w_X10 ad (0) cs en S1)]) (L' := [(w_X10 ad (0) cs en q2)]) (Wc := [(w_X10 ad (0) cs en S1)]) (Wc' := [(w_X10 ad (0) cs en q2)]) (is := [0]) (js := []) ⟨hx, hb, hml, hown, hts⟩ (k_X10_freshDraft l dC dI cs ad en s.heap.size S1 q2 gq2) (cwV 0 hts gX10_bicycle_X10_freshDraft rfl rfl rfl cd_X10_freshDraft ⟨Nat.le_of_ble_eq_true rfl, Nat.le_of_ble_eq_true rfl⟩) hK hP hD hS hA ⟨rfl, rfl, rfl, rfl, rfl, rfl⟩ (jn_nd (is := [0]) hD rfl rfl) 0 8 rfl rfl rfl rfl rfl hl.1 (Nat.le_of_ble_eq_true rfl) dX10_bicycle_2 (fun H2 locs2 hP' hD' hS' => ?_)
  replace hS := hS'
  replace hP : va_P (dC, dI) vwCl (fl [(w_X10 ad (0) cs en q2)]) H2 := hP'
  replace hD : va_D A (fl [(w_X10 ad (0) cs en q2)]) := hD'
  clear hP' hD' hS'
  refine lv_iload_n hx hb dX10_bicycle_5 rfl (lv_at hl 1 rfl) ?_
  replace hR := bd_e hR
  obtain ⟨q6, gq6, hR⟩ := hR
  replace hP : va_P (dC, dI) vwCl (fl [[((ad 0), .inr (8, [.ref (ad (0 + 1)), .ref (ad (0 + 29)), .ref (ad (0 + 57)), .int (q2 1 3 2 0 0), .ref (ad (0 + 85)), .ref (ad (0 + 199)), .ref (ad (0 + 202))]))], (w_X5 ad (0 + 1) cs (q2 1 0)), (w_X5 ad (0 + 29) cs (q2 1 1)), (w_X5 ad (0 + 57) cs (q2 1 2)), (w_X3 ad (0 + 85) cs (q2 0)), (w_X2 ad (0 + 199) cs (q2 1 3 0)), (w_X7 ad (0 + 202) cs en (q2 1 3 1))]) H2 := hP
  replace hD : va_D A (fl [[((ad 0), .inr (8, [.ref (ad (0 + 1)), .ref (ad (0 + 29)), .ref (ad (0 + 57)), .int (q2 1 3 2 0 0), .ref (ad (0 + 85)), .ref (ad (0 + 199)), .ref (ad (0 + 202))]))], (w_X5 ad (0 + 1) cs (q2 1 0)), (w_X5 ad (0 + 29) cs (q2 1 1)), (w_X5 ad (0 + 57) cs (q2 1 2)), (w_X3 ad (0 + 85) cs (q2 0)), (w_X2 ad (0 + 199) cs (q2 1 3 0)), (w_X7 ad (0 + 202) cs en (q2 1 3 1))]) := hD
  refine cl_Vi (As := [.int p1]) (rest := [.ref (ad 0)]) (L := [[((ad 0), .inr (8, [.ref (ad (0 + 1)), .ref (ad (0 + 29)), .ref (ad (0 + 57)), .int (q2 1 3 2 0 0), .ref (ad (0 + 85)), .ref (ad (0 + 199)), .ref (ad (0 + 202))]))], (w_X5 ad (0 + 1) cs (q2 1 0)), (w_X5 ad (0 + 29) cs (q2 1 1)), (w_X5 ad (0 + 57) cs (q2 1 2)), (w_X3 ad (0 + 85) cs (q2 0)), (w_X2 ad (0 + 199) cs (q2 1 3 0)), (w_X7 ad (0 + 202) cs en (q2 1 3 1))]) (L' := [[((ad 0), .inr (8, [.ref (ad (0 + 1)), .ref (ad (0 + 29)), .ref (ad (0 + 57)), .int ((sU q2 1 (sU (q2 1) 1 q6.2)) 1 3 2 0 0), .ref (ad (0 + 85)), .ref (ad (0 + 199)), .ref (ad (0 + 202))]))], (w_X5 ad (0 + 1) cs ((sU q2 1 (sU (q2 1) 1 q6.2)) 1 0)), (w_X5 ad (0 + 29) cs ((sU q2 1 (sU (q2 1) 1 q6.2)) 1 1)), (w_X5 ad (0 + 57) cs ((sU q2 1 (sU (q2 1) 1 q6.2)) 1 2)), (w_X3 ad (0 + 85) cs ((sU q2 1 (sU (q2 1) 1 q6.2)) 0)), (w_X2 ad (0 + 199) cs ((sU q2 1 (sU (q2 1) 1 q6.2)) 1 3 0)), (w_X7 ad (0 + 202) cs en ((sU q2 1 (sU (q2 1) 1 q6.2)) 1 3 1))]) (Wc := [(w_X5 ad (0 + 29) cs (q2 1 1))]) (Wc' := [(w_X5 ad (0 + 29) cs q6.2)]) (is := [2]) (js := [0, 1, 3, 4, 5, 6]) ⟨hx, hb, hml, hown, hts⟩ (k_X5_addBicycle l dC dI cs ad (0 + 29) H2.size (q2 1 1) p1 q6.1 q6.2 gq6) (cwV 1 hts gX10_bicycle_X5_addBicycle rfl rfl rfl cd_X5_addBicycle ⟨Nat.le_of_ble_eq_true rfl, Nat.le_of_ble_eq_true rfl⟩) hK hP hD hS hA ⟨rfl, rfl, rfl, rfl, rfl, rfl⟩ (jn_nd (is := [2]) hD rfl rfl) 29 4 rfl rfl rfl rfl rfl hl.1 (Nat.le_of_ble_eq_true rfl) dX10_bicycle_6 (fun H6 locs6 hP' hD' hS' => ?_)
  replace hS := hS'
  have hP' : va_P (dC, dI) vwCl (fl [(w_X10 ad (0) cs en (sU q2 1 (sU (q2 1) 1 q6.2)))]) H6 := hP'
  have hD' : va_D A (fl [(w_X10 ad (0) cs en (sU q2 1 (sU (q2 1) 1 q6.2)))]) := hD'
  replace hR := bn_e hR
  obtain ⟨S1_6, eS1_6, hR⟩ := hR
  replace hP : va_P (dC, dI) vwCl (fl [(w_X10 ad (0) cs en S1_6)]) H6 := by rw [eS1_6]; exact hP'
  replace hD : va_D A (fl [(w_X10 ad (0) cs en S1_6)]) := by rw [eS1_6]; exact hD'
  clear hP' hD' hS'
  replace hR := bd_e hR
  obtain ⟨q9, gq9, hR⟩ := hR
  refine cl_Vi (As := [.int q6.1]) (rest := []) (L := [(w_X10 ad (0) cs en S1_6)]) (L' := [(w_X10 ad (0) cs en q9.2)]) (Wc := [(w_X10 ad (0) cs en S1_6)]) (Wc' := [(w_X10 ad (0) cs en q9.2)]) (is := [0]) (js := []) ⟨hx, hb, hml, hown, hts⟩ (k_X10_settle l dC dI cs ad en H6.size S1_6 q6.1 q9.1 q9.2 gq9) (cwV 1 hts gX10_bicycle_X10_settle rfl rfl rfl cd_X10_settle ⟨Nat.le_of_ble_eq_true rfl, Nat.le_of_ble_eq_true rfl⟩) hK hP hD hS hA ⟨rfl, rfl, rfl, rfl, rfl, rfl⟩ (jn_nd (is := [0]) hD rfl rfl) 0 8 rfl rfl rfl rfl rfl hl.1 (Nat.le_of_ble_eq_true rfl) dX10_bicycle_9 (fun H9 locs9 hP' hD' hS' => ?_)
  replace hS := hS'
  replace hP : va_P (dC, dI) vwCl (fl [(w_X10 ad (0) cs en q9.2)]) H9 := hP'
  replace hD : va_D A (fl [(w_X10 ad (0) cs en q9.2)]) := hD'
  clear hP' hD' hS'
  replace hR := Option.some.inj hR
  obtain ⟨e9, hR⟩ := Prod.mk.inj hR
  have eu1 := hR
  replace hP : va_P (dC, dI) vwCl (fl [(w_X10 ad (0) cs en u1)]) H9 := by rw [← eu1]; exact hP
  replace hD : va_D A (fl [(w_X10 ad (0) cs en u1)]) := by rw [← eu1]; exact hD
  exact W.iret hx hb hr (fun t ht hW => ⟨⟨_, (), rfl, e9, by rw [ht]; exact hP, va_K.moved hW.alike hK, hD⟩, hS.F ht⟩) hS.2.2 dX10_bicycle_12
set_option maxHeartbeats 8000000 in
set_option maxRecDepth 100000 in
theorem k_X10_rider (l : Launch) (dC : Nat → ClassId) (dI : Nat → Nat → Nat) (cs : Nat → ClassId) (ad : Nat → Nat) (en : Nat → Nat) (sz : Nat) (S1 : T5) (r : Int32) (u1 : T5) (hR : fX10_rider S1 = some (r, u1)) : Met l yX10_rider wsX10_rider ({ frames := 5, cells := 0, slots := 0, locals := 115 } : Room) (va_Pc [.ref (ad 0)] (pW dC dI (tyL cs) (fl [(w_X10 ad (0) cs en S1)]) sz)) (QI dC dI (tyL cs) (va_A (fl [(w_X10 ad (0) cs en S1)]) sz) (fl [(w_X10 ad (0) cs en u1)]) r) 0 0 (va_A (fl [(w_X10 ad (0) cs en S1)]) sz) := by
  refine mt_of (own := RX10) (cc := cX10_rider) (maxL := 1) (ret := (some .int)) (Qc := fun A => QI dC dI (tyL cs) A (fl [(w_X10 ad (0) cs en u1)]) r) rfl (by decide) rfl (Nat.le_of_ble_eq_true rfl) (fun p e s m below meth c A ls hsz hx hb hr hts hown hlocks hml hA hK hP hD hS hl => ?_)
  subst hsz
  have hl : lv_has ls 1 [(0, .ref (ad 0))] := hl
  refine lv_aload_n hx hb dX10_rider_0 rfl (lv_at hl 0 rfl) ?_
  refine lv_aload_n hx hb dX10_rider_1 rfl (lv_at hl 0 rfl) ?_
  replace hR := bd_e hR
  obtain ⟨q2, gq2, hR⟩ := hR
  refine cl_Va (As := []) (rest := [.ref (ad 0)]) (L := [(w_X10 ad (0) cs en S1)]) (L' := [(w_X10 ad (0) cs en q2)]) (Wc := [(w_X10 ad (0) cs en S1)]) (Wc' := [(w_X10 ad (0) cs en q2)]) (is := [0]) (js := []) ⟨hx, hb, hml, hown, hts⟩ (k_X10_freshDraft l dC dI cs ad en s.heap.size S1 q2 gq2) (cwV 0 hts gX10_rider_X10_freshDraft rfl rfl rfl cd_X10_freshDraft ⟨Nat.le_of_ble_eq_true rfl, Nat.le_of_ble_eq_true rfl⟩) hK hP hD hS hA ⟨rfl, rfl, rfl, rfl, rfl, rfl⟩ (jn_nd (is := [0]) hD rfl rfl) 0 8 rfl rfl rfl rfl rfl hl.1 (Nat.le_of_ble_eq_true rfl) dX10_rider_2 (fun H2 locs2 hP' hD' hS' => ?_)
  replace hS := hS'
  replace hP : va_P (dC, dI) vwCl (fl [(w_X10 ad (0) cs en q2)]) H2 := hP'
  replace hD : va_D A (fl [(w_X10 ad (0) cs en q2)]) := hD'
  clear hP' hD' hS'
  replace hR := bd_e hR
  obtain ⟨q5, gq5, hR⟩ := hR
  replace hP : va_P (dC, dI) vwCl (fl [[((ad 0), .inr (8, [.ref (ad (0 + 1)), .ref (ad (0 + 29)), .ref (ad (0 + 57)), .int (q2 1 3 2 0 0), .ref (ad (0 + 85)), .ref (ad (0 + 199)), .ref (ad (0 + 202))]))], (w_X5 ad (0 + 1) cs (q2 1 0)), (w_X5 ad (0 + 29) cs (q2 1 1)), (w_X5 ad (0 + 57) cs (q2 1 2)), (w_X3 ad (0 + 85) cs (q2 0)), (w_X2 ad (0 + 199) cs (q2 1 3 0)), (w_X7 ad (0 + 202) cs en (q2 1 3 1))]) H2 := hP
  replace hD : va_D A (fl [[((ad 0), .inr (8, [.ref (ad (0 + 1)), .ref (ad (0 + 29)), .ref (ad (0 + 57)), .int (q2 1 3 2 0 0), .ref (ad (0 + 85)), .ref (ad (0 + 199)), .ref (ad (0 + 202))]))], (w_X5 ad (0 + 1) cs (q2 1 0)), (w_X5 ad (0 + 29) cs (q2 1 1)), (w_X5 ad (0 + 57) cs (q2 1 2)), (w_X3 ad (0 + 85) cs (q2 0)), (w_X2 ad (0 + 199) cs (q2 1 3 0)), (w_X7 ad (0 + 202) cs en (q2 1 3 1))]) := hD
  refine cl_Vi (As := []) (rest := [.ref (ad 0)]) (L := [[((ad 0), .inr (8, [.ref (ad (0 + 1)), .ref (ad (0 + 29)), .ref (ad (0 + 57)), .int (q2 1 3 2 0 0), .ref (ad (0 + 85)), .ref (ad (0 + 199)), .ref (ad (0 + 202))]))], (w_X5 ad (0 + 1) cs (q2 1 0)), (w_X5 ad (0 + 29) cs (q2 1 1)), (w_X5 ad (0 + 57) cs (q2 1 2)), (w_X3 ad (0 + 85) cs (q2 0)), (w_X2 ad (0 + 199) cs (q2 1 3 0)), (w_X7 ad (0 + 202) cs en (q2 1 3 1))]) (L' := [[((ad 0), .inr (8, [.ref (ad (0 + 1)), .ref (ad (0 + 29)), .ref (ad (0 + 57)), .int ((sU q2 1 (sU (q2 1) 1 q5.2)) 1 3 2 0 0), .ref (ad (0 + 85)), .ref (ad (0 + 199)), .ref (ad (0 + 202))]))], (w_X5 ad (0 + 1) cs ((sU q2 1 (sU (q2 1) 1 q5.2)) 1 0)), (w_X5 ad (0 + 29) cs ((sU q2 1 (sU (q2 1) 1 q5.2)) 1 1)), (w_X5 ad (0 + 57) cs ((sU q2 1 (sU (q2 1) 1 q5.2)) 1 2)), (w_X3 ad (0 + 85) cs ((sU q2 1 (sU (q2 1) 1 q5.2)) 0)), (w_X2 ad (0 + 199) cs ((sU q2 1 (sU (q2 1) 1 q5.2)) 1 3 0)), (w_X7 ad (0 + 202) cs en ((sU q2 1 (sU (q2 1) 1 q5.2)) 1 3 1))]) (Wc := [(w_X5 ad (0 + 29) cs (q2 1 1))]) (Wc' := [(w_X5 ad (0 + 29) cs q5.2)]) (is := [2]) (js := [0, 1, 3, 4, 5, 6]) ⟨hx, hb, hml, hown, hts⟩ (k_X5_addRider l dC dI cs ad (0 + 29) H2.size (q2 1 1) q5.1 q5.2 gq5) (cwV 0 hts gX10_rider_X5_addRider rfl rfl rfl cd_X5_addRider ⟨Nat.le_of_ble_eq_true rfl, Nat.le_of_ble_eq_true rfl⟩) hK hP hD hS hA ⟨rfl, rfl, rfl, rfl, rfl, rfl⟩ (jn_nd (is := [2]) hD rfl rfl) 29 4 rfl rfl rfl rfl rfl hl.1 (Nat.le_of_ble_eq_true rfl) dX10_rider_5 (fun H5 locs5 hP' hD' hS' => ?_)
  replace hS := hS'
  have hP' : va_P (dC, dI) vwCl (fl [(w_X10 ad (0) cs en (sU q2 1 (sU (q2 1) 1 q5.2)))]) H5 := hP'
  have hD' : va_D A (fl [(w_X10 ad (0) cs en (sU q2 1 (sU (q2 1) 1 q5.2)))]) := hD'
  replace hR := bn_e hR
  obtain ⟨S1_5, eS1_5, hR⟩ := hR
  replace hP : va_P (dC, dI) vwCl (fl [(w_X10 ad (0) cs en S1_5)]) H5 := by rw [eS1_5]; exact hP'
  replace hD : va_D A (fl [(w_X10 ad (0) cs en S1_5)]) := by rw [eS1_5]; exact hD'
  clear hP' hD' hS'
  replace hR := bd_e hR
  obtain ⟨q8, gq8, hR⟩ := hR
  refine cl_Vi (As := [.int q5.1]) (rest := []) (L := [(w_X10 ad (0) cs en S1_5)]) (L' := [(w_X10 ad (0) cs en q8.2)]) (Wc := [(w_X10 ad (0) cs en S1_5)]) (Wc' := [(w_X10 ad (0) cs en q8.2)]) (is := [0]) (js := []) ⟨hx, hb, hml, hown, hts⟩ (k_X10_settle l dC dI cs ad en H5.size S1_5 q5.1 q8.1 q8.2 gq8) (cwV 1 hts gX10_rider_X10_settle rfl rfl rfl cd_X10_settle ⟨Nat.le_of_ble_eq_true rfl, Nat.le_of_ble_eq_true rfl⟩) hK hP hD hS hA ⟨rfl, rfl, rfl, rfl, rfl, rfl⟩ (jn_nd (is := [0]) hD rfl rfl) 0 8 rfl rfl rfl rfl rfl hl.1 (Nat.le_of_ble_eq_true rfl) dX10_rider_8 (fun H8 locs8 hP' hD' hS' => ?_)
  replace hS := hS'
  replace hP : va_P (dC, dI) vwCl (fl [(w_X10 ad (0) cs en q8.2)]) H8 := hP'
  replace hD : va_D A (fl [(w_X10 ad (0) cs en q8.2)]) := hD'
  clear hP' hD' hS'
  replace hR := Option.some.inj hR
  obtain ⟨e9, hR⟩ := Prod.mk.inj hR
  have eu1 := hR
  replace hP : va_P (dC, dI) vwCl (fl [(w_X10 ad (0) cs en u1)]) H8 := by rw [← eu1]; exact hP
  replace hD : va_D A (fl [(w_X10 ad (0) cs en u1)]) := by rw [← eu1]; exact hD
  exact W.iret hx hb hr (fun t ht hW => ⟨⟨_, (), rfl, e9, by rw [ht]; exact hP, va_K.moved hW.alike hK, hD⟩, hS.F ht⟩) hS.2.2 dX10_rider_11
set_option maxHeartbeats 8000000 in
set_option maxRecDepth 100000 in
theorem k_X10_van (l : Launch) (dC : Nat → ClassId) (dI : Nat → Nat → Nat) (cs : Nat → ClassId) (ad : Nat → Nat) (en : Nat → Nat) (sz : Nat) (S1 : T5) (p1 : Int32) (p2 : Int32) (r : Int32) (u1 : T5) (hR : fX10_van S1 p1 p2 = some (r, u1)) : Met l yX10_van wsX10_van ({ frames := 5, cells := 0, slots := 0, locals := 115 } : Room) (va_Pc [.ref (ad 0), .int p1, .int p2] (pW dC dI (tyL cs) (fl [(w_X10 ad (0) cs en S1)]) sz)) (QI dC dI (tyL cs) (va_A (fl [(w_X10 ad (0) cs en S1)]) sz) (fl [(w_X10 ad (0) cs en u1)]) r) 0 0 (va_A (fl [(w_X10 ad (0) cs en S1)]) sz) := by
  refine mt_of (own := RX10) (cc := cX10_van) (maxL := 3) (ret := (some .int)) (Qc := fun A => QI dC dI (tyL cs) A (fl [(w_X10 ad (0) cs en u1)]) r) rfl (by decide) rfl (Nat.le_of_ble_eq_true rfl) (fun p e s m below meth c A ls hsz hx hb hr hts hown hlocks hml hA hK hP hD hS hl => ?_)
  subst hsz
  have hl : lv_has ls 3 [(0, .ref (ad 0)), (1, .int p1), (2, .int p2)] := hl
  refine lv_aload_n hx hb dX10_van_0 rfl (lv_at hl 0 rfl) ?_
  refine lv_aload_n hx hb dX10_van_1 rfl (lv_at hl 0 rfl) ?_
  replace hR := bd_e hR
  obtain ⟨q2, gq2, hR⟩ := hR
  refine cl_Va (As := []) (rest := [.ref (ad 0)]) (L := [(w_X10 ad (0) cs en S1)]) (L' := [(w_X10 ad (0) cs en q2)]) (Wc := [(w_X10 ad (0) cs en S1)]) (Wc' := [(w_X10 ad (0) cs en q2)]) (is := [0]) (js := []) ⟨hx, hb, hml, hown, hts⟩ (k_X10_freshDraft l dC dI cs ad en s.heap.size S1 q2 gq2) (cwV 0 hts gX10_van_X10_freshDraft rfl rfl rfl cd_X10_freshDraft ⟨Nat.le_of_ble_eq_true rfl, Nat.le_of_ble_eq_true rfl⟩) hK hP hD hS hA ⟨rfl, rfl, rfl, rfl, rfl, rfl⟩ (jn_nd (is := [0]) hD rfl rfl) 0 8 rfl rfl rfl rfl rfl hl.1 (Nat.le_of_ble_eq_true rfl) dX10_van_2 (fun H2 locs2 hP' hD' hS' => ?_)
  replace hS := hS'
  replace hP : va_P (dC, dI) vwCl (fl [(w_X10 ad (0) cs en q2)]) H2 := hP'
  replace hD : va_D A (fl [(w_X10 ad (0) cs en q2)]) := hD'
  clear hP' hD' hS'
  refine lv_iload_n hx hb dX10_van_5 rfl (lv_at hl 1 rfl) ?_
  refine lv_iload_n hx hb dX10_van_6 rfl (lv_at hl 2 rfl) ?_
  replace hR := bd_e hR
  obtain ⟨q7, gq7, hR⟩ := hR
  replace hP : va_P (dC, dI) vwCl (fl [[((ad 0), .inr (8, [.ref (ad (0 + 1)), .ref (ad (0 + 29)), .ref (ad (0 + 57)), .int (q2 1 3 2 0 0), .ref (ad (0 + 85)), .ref (ad (0 + 199)), .ref (ad (0 + 202))]))], (w_X5 ad (0 + 1) cs (q2 1 0)), (w_X5 ad (0 + 29) cs (q2 1 1)), (w_X5 ad (0 + 57) cs (q2 1 2)), (w_X3 ad (0 + 85) cs (q2 0)), (w_X2 ad (0 + 199) cs (q2 1 3 0)), (w_X7 ad (0 + 202) cs en (q2 1 3 1))]) H2 := hP
  replace hD : va_D A (fl [[((ad 0), .inr (8, [.ref (ad (0 + 1)), .ref (ad (0 + 29)), .ref (ad (0 + 57)), .int (q2 1 3 2 0 0), .ref (ad (0 + 85)), .ref (ad (0 + 199)), .ref (ad (0 + 202))]))], (w_X5 ad (0 + 1) cs (q2 1 0)), (w_X5 ad (0 + 29) cs (q2 1 1)), (w_X5 ad (0 + 57) cs (q2 1 2)), (w_X3 ad (0 + 85) cs (q2 0)), (w_X2 ad (0 + 199) cs (q2 1 3 0)), (w_X7 ad (0 + 202) cs en (q2 1 3 1))]) := hD
  refine cl_Vi (As := [.int p1, .int p2]) (rest := [.ref (ad 0)]) (L := [[((ad 0), .inr (8, [.ref (ad (0 + 1)), .ref (ad (0 + 29)), .ref (ad (0 + 57)), .int (q2 1 3 2 0 0), .ref (ad (0 + 85)), .ref (ad (0 + 199)), .ref (ad (0 + 202))]))], (w_X5 ad (0 + 1) cs (q2 1 0)), (w_X5 ad (0 + 29) cs (q2 1 1)), (w_X5 ad (0 + 57) cs (q2 1 2)), (w_X3 ad (0 + 85) cs (q2 0)), (w_X2 ad (0 + 199) cs (q2 1 3 0)), (w_X7 ad (0 + 202) cs en (q2 1 3 1))]) (L' := [[((ad 0), .inr (8, [.ref (ad (0 + 1)), .ref (ad (0 + 29)), .ref (ad (0 + 57)), .int ((sU q2 1 (sU (q2 1) 1 q7.2)) 1 3 2 0 0), .ref (ad (0 + 85)), .ref (ad (0 + 199)), .ref (ad (0 + 202))]))], (w_X5 ad (0 + 1) cs ((sU q2 1 (sU (q2 1) 1 q7.2)) 1 0)), (w_X5 ad (0 + 29) cs ((sU q2 1 (sU (q2 1) 1 q7.2)) 1 1)), (w_X5 ad (0 + 57) cs ((sU q2 1 (sU (q2 1) 1 q7.2)) 1 2)), (w_X3 ad (0 + 85) cs ((sU q2 1 (sU (q2 1) 1 q7.2)) 0)), (w_X2 ad (0 + 199) cs ((sU q2 1 (sU (q2 1) 1 q7.2)) 1 3 0)), (w_X7 ad (0 + 202) cs en ((sU q2 1 (sU (q2 1) 1 q7.2)) 1 3 1))]) (Wc := [(w_X5 ad (0 + 29) cs (q2 1 1))]) (Wc' := [(w_X5 ad (0 + 29) cs q7.2)]) (is := [2]) (js := [0, 1, 3, 4, 5, 6]) ⟨hx, hb, hml, hown, hts⟩ (k_X5_addVan l dC dI cs ad (0 + 29) H2.size (q2 1 1) p1 p2 q7.1 q7.2 gq7) (cwV 2 hts gX10_van_X5_addVan rfl rfl rfl cd_X5_addVan ⟨Nat.le_of_ble_eq_true rfl, Nat.le_of_ble_eq_true rfl⟩) hK hP hD hS hA ⟨rfl, rfl, rfl, rfl, rfl, rfl⟩ (jn_nd (is := [2]) hD rfl rfl) 29 4 rfl rfl rfl rfl rfl hl.1 (Nat.le_of_ble_eq_true rfl) dX10_van_7 (fun H7 locs7 hP' hD' hS' => ?_)
  replace hS := hS'
  have hP' : va_P (dC, dI) vwCl (fl [(w_X10 ad (0) cs en (sU q2 1 (sU (q2 1) 1 q7.2)))]) H7 := hP'
  have hD' : va_D A (fl [(w_X10 ad (0) cs en (sU q2 1 (sU (q2 1) 1 q7.2)))]) := hD'
  replace hR := bn_e hR
  obtain ⟨S1_7, eS1_7, hR⟩ := hR
  replace hP : va_P (dC, dI) vwCl (fl [(w_X10 ad (0) cs en S1_7)]) H7 := by rw [eS1_7]; exact hP'
  replace hD : va_D A (fl [(w_X10 ad (0) cs en S1_7)]) := by rw [eS1_7]; exact hD'
  clear hP' hD' hS'
  replace hR := bd_e hR
  obtain ⟨q10, gq10, hR⟩ := hR
  refine cl_Vi (As := [.int q7.1]) (rest := []) (L := [(w_X10 ad (0) cs en S1_7)]) (L' := [(w_X10 ad (0) cs en q10.2)]) (Wc := [(w_X10 ad (0) cs en S1_7)]) (Wc' := [(w_X10 ad (0) cs en q10.2)]) (is := [0]) (js := []) ⟨hx, hb, hml, hown, hts⟩ (k_X10_settle l dC dI cs ad en H7.size S1_7 q7.1 q10.1 q10.2 gq10) (cwV 1 hts gX10_van_X10_settle rfl rfl rfl cd_X10_settle ⟨Nat.le_of_ble_eq_true rfl, Nat.le_of_ble_eq_true rfl⟩) hK hP hD hS hA ⟨rfl, rfl, rfl, rfl, rfl, rfl⟩ (jn_nd (is := [0]) hD rfl rfl) 0 8 rfl rfl rfl rfl rfl hl.1 (Nat.le_of_ble_eq_true rfl) dX10_van_10 (fun H10 locs10 hP' hD' hS' => ?_)
  replace hS := hS'
  replace hP : va_P (dC, dI) vwCl (fl [(w_X10 ad (0) cs en q10.2)]) H10 := hP'
  replace hD : va_D A (fl [(w_X10 ad (0) cs en q10.2)]) := hD'
  clear hP' hD' hS'
  replace hR := Option.some.inj hR
  obtain ⟨e9, hR⟩ := Prod.mk.inj hR
  have eu1 := hR
  replace hP : va_P (dC, dI) vwCl (fl [(w_X10 ad (0) cs en u1)]) H10 := by rw [← eu1]; exact hP
  replace hD : va_D A (fl [(w_X10 ad (0) cs en u1)]) := by rw [← eu1]; exact hD
  exact W.iret hx hb hr (fun t ht hW => ⟨⟨_, (), rfl, e9, by rw [ht]; exact hP, va_K.moved hW.alike hK, hD⟩, hS.F ht⟩) hS.2.2 dX10_van_13
set_option maxHeartbeats 8000000 in
set_option maxRecDepth 100000 in
theorem k_X10_pass (l : Launch) (dC : Nat → ClassId) (dI : Nat → Nat → Nat) (cs : Nat → ClassId) (ad : Nat → Nat) (en : Nat → Nat) (sz : Nat) (S1 : T5) (p1 : Int32) (r : Int32) (u1 : T5) (hR : fX10_pass S1 p1 = some (r, u1)) : Met l yX10_pass wsX10_pass ({ frames := 5, cells := 0, slots := 0, locals := 115 } : Room) (va_Pc [.ref (ad 0), .int p1] (pW dC dI (tyL cs) (fl [(w_X10 ad (0) cs en S1)]) sz)) (QI dC dI (tyL cs) (va_A (fl [(w_X10 ad (0) cs en S1)]) sz) (fl [(w_X10 ad (0) cs en u1)]) r) 0 0 (va_A (fl [(w_X10 ad (0) cs en S1)]) sz) := by
  refine mt_of (own := RX10) (cc := cX10_pass) (maxL := 2) (ret := (some .int)) (Qc := fun A => QI dC dI (tyL cs) A (fl [(w_X10 ad (0) cs en u1)]) r) rfl (by decide) rfl (Nat.le_of_ble_eq_true rfl) (fun p e s m below meth c A ls hsz hx hb hr hts hown hlocks hml hA hK hP hD hS hl => ?_)
  subst hsz
  have hl : lv_has ls 2 [(0, .ref (ad 0)), (1, .int p1)] := hl
  refine lv_aload_n hx hb dX10_pass_0 rfl (lv_at hl 0 rfl) ?_
  refine lv_aload_n hx hb dX10_pass_1 rfl (lv_at hl 0 rfl) ?_
  replace hR := bd_e hR
  obtain ⟨q2, gq2, hR⟩ := hR
  refine cl_Va (As := []) (rest := [.ref (ad 0)]) (L := [(w_X10 ad (0) cs en S1)]) (L' := [(w_X10 ad (0) cs en q2)]) (Wc := [(w_X10 ad (0) cs en S1)]) (Wc' := [(w_X10 ad (0) cs en q2)]) (is := [0]) (js := []) ⟨hx, hb, hml, hown, hts⟩ (k_X10_freshDraft l dC dI cs ad en s.heap.size S1 q2 gq2) (cwV 0 hts gX10_pass_X10_freshDraft rfl rfl rfl cd_X10_freshDraft ⟨Nat.le_of_ble_eq_true rfl, Nat.le_of_ble_eq_true rfl⟩) hK hP hD hS hA ⟨rfl, rfl, rfl, rfl, rfl, rfl⟩ (jn_nd (is := [0]) hD rfl rfl) 0 8 rfl rfl rfl rfl rfl hl.1 (Nat.le_of_ble_eq_true rfl) dX10_pass_2 (fun H2 locs2 hP' hD' hS' => ?_)
  replace hS := hS'
  replace hP : va_P (dC, dI) vwCl (fl [(w_X10 ad (0) cs en q2)]) H2 := hP'
  replace hD : va_D A (fl [(w_X10 ad (0) cs en q2)]) := hD'
  clear hP' hD' hS'
  refine lv_iload_n hx hb dX10_pass_5 rfl (lv_at hl 1 rfl) ?_
  replace hR := bd_e hR
  obtain ⟨q6, gq6, hR⟩ := hR
  replace hP : va_P (dC, dI) vwCl (fl [[((ad 0), .inr (8, [.ref (ad (0 + 1)), .ref (ad (0 + 29)), .ref (ad (0 + 57)), .int (q2 1 3 2 0 0), .ref (ad (0 + 85)), .ref (ad (0 + 199)), .ref (ad (0 + 202))]))], (w_X5 ad (0 + 1) cs (q2 1 0)), (w_X5 ad (0 + 29) cs (q2 1 1)), (w_X5 ad (0 + 57) cs (q2 1 2)), (w_X3 ad (0 + 85) cs (q2 0)), (w_X2 ad (0 + 199) cs (q2 1 3 0)), (w_X7 ad (0 + 202) cs en (q2 1 3 1))]) H2 := hP
  replace hD : va_D A (fl [[((ad 0), .inr (8, [.ref (ad (0 + 1)), .ref (ad (0 + 29)), .ref (ad (0 + 57)), .int (q2 1 3 2 0 0), .ref (ad (0 + 85)), .ref (ad (0 + 199)), .ref (ad (0 + 202))]))], (w_X5 ad (0 + 1) cs (q2 1 0)), (w_X5 ad (0 + 29) cs (q2 1 1)), (w_X5 ad (0 + 57) cs (q2 1 2)), (w_X3 ad (0 + 85) cs (q2 0)), (w_X2 ad (0 + 199) cs (q2 1 3 0)), (w_X7 ad (0 + 202) cs en (q2 1 3 1))]) := hD
  refine cl_Vi (As := [.int p1]) (rest := [.ref (ad 0)]) (L := [[((ad 0), .inr (8, [.ref (ad (0 + 1)), .ref (ad (0 + 29)), .ref (ad (0 + 57)), .int (q2 1 3 2 0 0), .ref (ad (0 + 85)), .ref (ad (0 + 199)), .ref (ad (0 + 202))]))], (w_X5 ad (0 + 1) cs (q2 1 0)), (w_X5 ad (0 + 29) cs (q2 1 1)), (w_X5 ad (0 + 57) cs (q2 1 2)), (w_X3 ad (0 + 85) cs (q2 0)), (w_X2 ad (0 + 199) cs (q2 1 3 0)), (w_X7 ad (0 + 202) cs en (q2 1 3 1))]) (L' := [[((ad 0), .inr (8, [.ref (ad (0 + 1)), .ref (ad (0 + 29)), .ref (ad (0 + 57)), .int ((sU q2 1 (sU (q2 1) 1 q6.2)) 1 3 2 0 0), .ref (ad (0 + 85)), .ref (ad (0 + 199)), .ref (ad (0 + 202))]))], (w_X5 ad (0 + 1) cs ((sU q2 1 (sU (q2 1) 1 q6.2)) 1 0)), (w_X5 ad (0 + 29) cs ((sU q2 1 (sU (q2 1) 1 q6.2)) 1 1)), (w_X5 ad (0 + 57) cs ((sU q2 1 (sU (q2 1) 1 q6.2)) 1 2)), (w_X3 ad (0 + 85) cs ((sU q2 1 (sU (q2 1) 1 q6.2)) 0)), (w_X2 ad (0 + 199) cs ((sU q2 1 (sU (q2 1) 1 q6.2)) 1 3 0)), (w_X7 ad (0 + 202) cs en ((sU q2 1 (sU (q2 1) 1 q6.2)) 1 3 1))]) (Wc := [(w_X5 ad (0 + 29) cs (q2 1 1))]) (Wc' := [(w_X5 ad (0 + 29) cs q6.2)]) (is := [2]) (js := [0, 1, 3, 4, 5, 6]) ⟨hx, hb, hml, hown, hts⟩ (k_X5_sellPass l dC dI cs ad (0 + 29) H2.size (q2 1 1) p1 q6.1 q6.2 gq6) (cwV 1 hts gX10_pass_X5_sellPass rfl rfl rfl cd_X5_sellPass ⟨Nat.le_of_ble_eq_true rfl, Nat.le_of_ble_eq_true rfl⟩) hK hP hD hS hA ⟨rfl, rfl, rfl, rfl, rfl, rfl⟩ (jn_nd (is := [2]) hD rfl rfl) 29 4 rfl rfl rfl rfl rfl hl.1 (Nat.le_of_ble_eq_true rfl) dX10_pass_6 (fun H6 locs6 hP' hD' hS' => ?_)
  replace hS := hS'
  have hP' : va_P (dC, dI) vwCl (fl [(w_X10 ad (0) cs en (sU q2 1 (sU (q2 1) 1 q6.2)))]) H6 := hP'
  have hD' : va_D A (fl [(w_X10 ad (0) cs en (sU q2 1 (sU (q2 1) 1 q6.2)))]) := hD'
  replace hR := bn_e hR
  obtain ⟨S1_6, eS1_6, hR⟩ := hR
  replace hP : va_P (dC, dI) vwCl (fl [(w_X10 ad (0) cs en S1_6)]) H6 := by rw [eS1_6]; exact hP'
  replace hD : va_D A (fl [(w_X10 ad (0) cs en S1_6)]) := by rw [eS1_6]; exact hD'
  clear hP' hD' hS'
  replace hR := bd_e hR
  obtain ⟨q9, gq9, hR⟩ := hR
  refine cl_Vi (As := [.int q6.1]) (rest := []) (L := [(w_X10 ad (0) cs en S1_6)]) (L' := [(w_X10 ad (0) cs en q9.2)]) (Wc := [(w_X10 ad (0) cs en S1_6)]) (Wc' := [(w_X10 ad (0) cs en q9.2)]) (is := [0]) (js := []) ⟨hx, hb, hml, hown, hts⟩ (k_X10_settle l dC dI cs ad en H6.size S1_6 q6.1 q9.1 q9.2 gq9) (cwV 1 hts gX10_pass_X10_settle rfl rfl rfl cd_X10_settle ⟨Nat.le_of_ble_eq_true rfl, Nat.le_of_ble_eq_true rfl⟩) hK hP hD hS hA ⟨rfl, rfl, rfl, rfl, rfl, rfl⟩ (jn_nd (is := [0]) hD rfl rfl) 0 8 rfl rfl rfl rfl rfl hl.1 (Nat.le_of_ble_eq_true rfl) dX10_pass_9 (fun H9 locs9 hP' hD' hS' => ?_)
  replace hS := hS'
  replace hP : va_P (dC, dI) vwCl (fl [(w_X10 ad (0) cs en q9.2)]) H9 := hP'
  replace hD : va_D A (fl [(w_X10 ad (0) cs en q9.2)]) := hD'
  clear hP' hD' hS'
  replace hR := Option.some.inj hR
  obtain ⟨e9, hR⟩ := Prod.mk.inj hR
  have eu1 := hR
  replace hP : va_P (dC, dI) vwCl (fl [(w_X10 ad (0) cs en u1)]) H9 := by rw [← eu1]; exact hP
  replace hD : va_D A (fl [(w_X10 ad (0) cs en u1)]) := by rw [← eu1]; exact hD
  exact W.iret hx hb hr (fun t ht hW => ⟨⟨_, (), rfl, e9, by rw [ht]; exact hP, va_K.moved hW.alike hK, hD⟩, hS.F ht⟩) hS.2.2 dX10_pass_12
set_option maxHeartbeats 8000000 in
set_option maxRecDepth 100000 in
theorem k_X10_rent (l : Launch) (dC : Nat → ClassId) (dI : Nat → Nat → Nat) (cs : Nat → ClassId) (ad : Nat → Nat) (en : Nat → Nat) (sz : Nat) (S1 : T5) (p1 : Int32) (p2 : Int32) (r : Int32) (u1 : T5) (hR : fX10_rent S1 p1 p2 = some (r, u1)) : Met l yX10_rent wsX10_rent ({ frames := 5, cells := 0, slots := 0, locals := 115 } : Room) (va_Pc [.ref (ad 0), .int p1, .int p2] (pW dC dI (tyL cs) (fl [(w_X10 ad (0) cs en S1)]) sz)) (QI dC dI (tyL cs) (va_A (fl [(w_X10 ad (0) cs en S1)]) sz) (fl [(w_X10 ad (0) cs en u1)]) r) 0 0 (va_A (fl [(w_X10 ad (0) cs en S1)]) sz) := by
  refine mt_of (own := RX10) (cc := cX10_rent) (maxL := 3) (ret := (some .int)) (Qc := fun A => QI dC dI (tyL cs) A (fl [(w_X10 ad (0) cs en u1)]) r) rfl (by decide) rfl (Nat.le_of_ble_eq_true rfl) (fun p e s m below meth c A ls hsz hx hb hr hts hown hlocks hml hA hK hP hD hS hl => ?_)
  subst hsz
  have hl : lv_has ls 3 [(0, .ref (ad 0)), (1, .int p1), (2, .int p2)] := hl
  refine lv_aload_n hx hb dX10_rent_0 rfl (lv_at hl 0 rfl) ?_
  refine lv_aload_n hx hb dX10_rent_1 rfl (lv_at hl 0 rfl) ?_
  replace hR := bd_e hR
  obtain ⟨q2, gq2, hR⟩ := hR
  refine cl_Va (As := []) (rest := [.ref (ad 0)]) (L := [(w_X10 ad (0) cs en S1)]) (L' := [(w_X10 ad (0) cs en q2)]) (Wc := [(w_X10 ad (0) cs en S1)]) (Wc' := [(w_X10 ad (0) cs en q2)]) (is := [0]) (js := []) ⟨hx, hb, hml, hown, hts⟩ (k_X10_freshDraft l dC dI cs ad en s.heap.size S1 q2 gq2) (cwV 0 hts gX10_rent_X10_freshDraft rfl rfl rfl cd_X10_freshDraft ⟨Nat.le_of_ble_eq_true rfl, Nat.le_of_ble_eq_true rfl⟩) hK hP hD hS hA ⟨rfl, rfl, rfl, rfl, rfl, rfl⟩ (jn_nd (is := [0]) hD rfl rfl) 0 8 rfl rfl rfl rfl rfl hl.1 (Nat.le_of_ble_eq_true rfl) dX10_rent_2 (fun H2 locs2 hP' hD' hS' => ?_)
  replace hS := hS'
  replace hP : va_P (dC, dI) vwCl (fl [(w_X10 ad (0) cs en q2)]) H2 := hP'
  replace hD : va_D A (fl [(w_X10 ad (0) cs en q2)]) := hD'
  clear hP' hD' hS'
  refine lv_iload_n hx hb dX10_rent_5 rfl (lv_at hl 1 rfl) ?_
  refine lv_iload_n hx hb dX10_rent_6 rfl (lv_at hl 2 rfl) ?_
  replace hR := bd_e hR
  obtain ⟨q7, gq7, hR⟩ := hR
  replace hP : va_P (dC, dI) vwCl (fl [[((ad 0), .inr (8, [.ref (ad (0 + 1)), .ref (ad (0 + 29)), .ref (ad (0 + 57)), .int (q2 1 3 2 0 0), .ref (ad (0 + 85)), .ref (ad (0 + 199)), .ref (ad (0 + 202))]))], (w_X5 ad (0 + 1) cs (q2 1 0)), (w_X5 ad (0 + 29) cs (q2 1 1)), (w_X5 ad (0 + 57) cs (q2 1 2)), (w_X3 ad (0 + 85) cs (q2 0)), (w_X2 ad (0 + 199) cs (q2 1 3 0)), (w_X7 ad (0 + 202) cs en (q2 1 3 1))]) H2 := hP
  replace hD : va_D A (fl [[((ad 0), .inr (8, [.ref (ad (0 + 1)), .ref (ad (0 + 29)), .ref (ad (0 + 57)), .int (q2 1 3 2 0 0), .ref (ad (0 + 85)), .ref (ad (0 + 199)), .ref (ad (0 + 202))]))], (w_X5 ad (0 + 1) cs (q2 1 0)), (w_X5 ad (0 + 29) cs (q2 1 1)), (w_X5 ad (0 + 57) cs (q2 1 2)), (w_X3 ad (0 + 85) cs (q2 0)), (w_X2 ad (0 + 199) cs (q2 1 3 0)), (w_X7 ad (0 + 202) cs en (q2 1 3 1))]) := hD
  refine cl_Vi (As := [.int p1, .int p2]) (rest := [.ref (ad 0)]) (L := [[((ad 0), .inr (8, [.ref (ad (0 + 1)), .ref (ad (0 + 29)), .ref (ad (0 + 57)), .int (q2 1 3 2 0 0), .ref (ad (0 + 85)), .ref (ad (0 + 199)), .ref (ad (0 + 202))]))], (w_X5 ad (0 + 1) cs (q2 1 0)), (w_X5 ad (0 + 29) cs (q2 1 1)), (w_X5 ad (0 + 57) cs (q2 1 2)), (w_X3 ad (0 + 85) cs (q2 0)), (w_X2 ad (0 + 199) cs (q2 1 3 0)), (w_X7 ad (0 + 202) cs en (q2 1 3 1))]) (L' := [[((ad 0), .inr (8, [.ref (ad (0 + 1)), .ref (ad (0 + 29)), .ref (ad (0 + 57)), .int ((sU q2 1 (sU (q2 1) 1 q7.2)) 1 3 2 0 0), .ref (ad (0 + 85)), .ref (ad (0 + 199)), .ref (ad (0 + 202))]))], (w_X5 ad (0 + 1) cs ((sU q2 1 (sU (q2 1) 1 q7.2)) 1 0)), (w_X5 ad (0 + 29) cs ((sU q2 1 (sU (q2 1) 1 q7.2)) 1 1)), (w_X5 ad (0 + 57) cs ((sU q2 1 (sU (q2 1) 1 q7.2)) 1 2)), (w_X3 ad (0 + 85) cs ((sU q2 1 (sU (q2 1) 1 q7.2)) 0)), (w_X2 ad (0 + 199) cs ((sU q2 1 (sU (q2 1) 1 q7.2)) 1 3 0)), (w_X7 ad (0 + 202) cs en ((sU q2 1 (sU (q2 1) 1 q7.2)) 1 3 1))]) (Wc := [(w_X5 ad (0 + 29) cs (q2 1 1))]) (Wc' := [(w_X5 ad (0 + 29) cs q7.2)]) (is := [2]) (js := [0, 1, 3, 4, 5, 6]) ⟨hx, hb, hml, hown, hts⟩ (k_X5_beginRide l dC dI cs ad (0 + 29) H2.size (q2 1 1) p1 p2 q7.1 q7.2 gq7) (cwV 2 hts gX10_rent_X5_beginRide rfl rfl rfl cd_X5_beginRide ⟨Nat.le_of_ble_eq_true rfl, Nat.le_of_ble_eq_true rfl⟩) hK hP hD hS hA ⟨rfl, rfl, rfl, rfl, rfl, rfl⟩ (jn_nd (is := [2]) hD rfl rfl) 29 4 rfl rfl rfl rfl rfl hl.1 (Nat.le_of_ble_eq_true rfl) dX10_rent_7 (fun H7 locs7 hP' hD' hS' => ?_)
  replace hS := hS'
  have hP' : va_P (dC, dI) vwCl (fl [(w_X10 ad (0) cs en (sU q2 1 (sU (q2 1) 1 q7.2)))]) H7 := hP'
  have hD' : va_D A (fl [(w_X10 ad (0) cs en (sU q2 1 (sU (q2 1) 1 q7.2)))]) := hD'
  replace hR := bn_e hR
  obtain ⟨S1_7, eS1_7, hR⟩ := hR
  replace hP : va_P (dC, dI) vwCl (fl [(w_X10 ad (0) cs en S1_7)]) H7 := by rw [eS1_7]; exact hP'
  replace hD : va_D A (fl [(w_X10 ad (0) cs en S1_7)]) := by rw [eS1_7]; exact hD'
  clear hP' hD' hS'
  replace hR := bd_e hR
  obtain ⟨q10, gq10, hR⟩ := hR
  refine cl_Vi (As := [.int q7.1]) (rest := []) (L := [(w_X10 ad (0) cs en S1_7)]) (L' := [(w_X10 ad (0) cs en q10.2)]) (Wc := [(w_X10 ad (0) cs en S1_7)]) (Wc' := [(w_X10 ad (0) cs en q10.2)]) (is := [0]) (js := []) ⟨hx, hb, hml, hown, hts⟩ (k_X10_settle l dC dI cs ad en H7.size S1_7 q7.1 q10.1 q10.2 gq10) (cwV 1 hts gX10_rent_X10_settle rfl rfl rfl cd_X10_settle ⟨Nat.le_of_ble_eq_true rfl, Nat.le_of_ble_eq_true rfl⟩) hK hP hD hS hA ⟨rfl, rfl, rfl, rfl, rfl, rfl⟩ (jn_nd (is := [0]) hD rfl rfl) 0 8 rfl rfl rfl rfl rfl hl.1 (Nat.le_of_ble_eq_true rfl) dX10_rent_10 (fun H10 locs10 hP' hD' hS' => ?_)
  replace hS := hS'
  replace hP : va_P (dC, dI) vwCl (fl [(w_X10 ad (0) cs en q10.2)]) H10 := hP'
  replace hD : va_D A (fl [(w_X10 ad (0) cs en q10.2)]) := hD'
  clear hP' hD' hS'
  replace hR := Option.some.inj hR
  obtain ⟨e9, hR⟩ := Prod.mk.inj hR
  have eu1 := hR
  replace hP : va_P (dC, dI) vwCl (fl [(w_X10 ad (0) cs en u1)]) H10 := by rw [← eu1]; exact hP
  replace hD : va_D A (fl [(w_X10 ad (0) cs en u1)]) := by rw [← eu1]; exact hD
  exact W.iret hx hb hr (fun t ht hW => ⟨⟨_, (), rfl, e9, by rw [ht]; exact hP, va_K.moved hW.alike hK, hD⟩, hS.F ht⟩) hS.2.2 dX10_rent_13
set_option maxHeartbeats 8000000 in
set_option maxRecDepth 100000 in
theorem k_X10_back (l : Launch) (dC : Nat → ClassId) (dI : Nat → Nat → Nat) (cs : Nat → ClassId) (ad : Nat → Nat) (en : Nat → Nat) (sz : Nat) (S1 : T5) (p1 : Int32) (p2 : Int32) (r : Int32) (u1 : T5) (hR : fX10_back S1 p1 p2 = some (r, u1)) : Met l yX10_back wsX10_back ({ frames := 5, cells := 0, slots := 0, locals := 115 } : Room) (va_Pc [.ref (ad 0), .int p1, .int p2] (pW dC dI (tyL cs) (fl [(w_X10 ad (0) cs en S1)]) sz)) (QI dC dI (tyL cs) (va_A (fl [(w_X10 ad (0) cs en S1)]) sz) (fl [(w_X10 ad (0) cs en u1)]) r) 0 0 (va_A (fl [(w_X10 ad (0) cs en S1)]) sz) := by
  refine mt_of (own := RX10) (cc := cX10_back) (maxL := 3) (ret := (some .int)) (Qc := fun A => QI dC dI (tyL cs) A (fl [(w_X10 ad (0) cs en u1)]) r) rfl (by decide) rfl (Nat.le_of_ble_eq_true rfl) (fun p e s m below meth c A ls hsz hx hb hr hts hown hlocks hml hA hK hP hD hS hl => ?_)
  subst hsz
  have hl : lv_has ls 3 [(0, .ref (ad 0)), (1, .int p1), (2, .int p2)] := hl
  refine lv_aload_n hx hb dX10_back_0 rfl (lv_at hl 0 rfl) ?_
  refine lv_aload_n hx hb dX10_back_1 rfl (lv_at hl 0 rfl) ?_
  replace hR := bd_e hR
  obtain ⟨q2, gq2, hR⟩ := hR
  refine cl_Va (As := []) (rest := [.ref (ad 0)]) (L := [(w_X10 ad (0) cs en S1)]) (L' := [(w_X10 ad (0) cs en q2)]) (Wc := [(w_X10 ad (0) cs en S1)]) (Wc' := [(w_X10 ad (0) cs en q2)]) (is := [0]) (js := []) ⟨hx, hb, hml, hown, hts⟩ (k_X10_freshDraft l dC dI cs ad en s.heap.size S1 q2 gq2) (cwV 0 hts gX10_back_X10_freshDraft rfl rfl rfl cd_X10_freshDraft ⟨Nat.le_of_ble_eq_true rfl, Nat.le_of_ble_eq_true rfl⟩) hK hP hD hS hA ⟨rfl, rfl, rfl, rfl, rfl, rfl⟩ (jn_nd (is := [0]) hD rfl rfl) 0 8 rfl rfl rfl rfl rfl hl.1 (Nat.le_of_ble_eq_true rfl) dX10_back_2 (fun H2 locs2 hP' hD' hS' => ?_)
  replace hS := hS'
  replace hP : va_P (dC, dI) vwCl (fl [(w_X10 ad (0) cs en q2)]) H2 := hP'
  replace hD : va_D A (fl [(w_X10 ad (0) cs en q2)]) := hD'
  clear hP' hD' hS'
  refine lv_iload_n hx hb dX10_back_5 rfl (lv_at hl 1 rfl) ?_
  refine lv_iload_n hx hb dX10_back_6 rfl (lv_at hl 2 rfl) ?_
  replace hR := bd_e hR
  obtain ⟨q7, gq7, hR⟩ := hR
  replace hP : va_P (dC, dI) vwCl (fl [[((ad 0), .inr (8, [.ref (ad (0 + 1)), .ref (ad (0 + 29)), .ref (ad (0 + 57)), .int (q2 1 3 2 0 0), .ref (ad (0 + 85)), .ref (ad (0 + 199)), .ref (ad (0 + 202))]))], (w_X5 ad (0 + 1) cs (q2 1 0)), (w_X5 ad (0 + 29) cs (q2 1 1)), (w_X5 ad (0 + 57) cs (q2 1 2)), (w_X3 ad (0 + 85) cs (q2 0)), (w_X2 ad (0 + 199) cs (q2 1 3 0)), (w_X7 ad (0 + 202) cs en (q2 1 3 1))]) H2 := hP
  replace hD : va_D A (fl [[((ad 0), .inr (8, [.ref (ad (0 + 1)), .ref (ad (0 + 29)), .ref (ad (0 + 57)), .int (q2 1 3 2 0 0), .ref (ad (0 + 85)), .ref (ad (0 + 199)), .ref (ad (0 + 202))]))], (w_X5 ad (0 + 1) cs (q2 1 0)), (w_X5 ad (0 + 29) cs (q2 1 1)), (w_X5 ad (0 + 57) cs (q2 1 2)), (w_X3 ad (0 + 85) cs (q2 0)), (w_X2 ad (0 + 199) cs (q2 1 3 0)), (w_X7 ad (0 + 202) cs en (q2 1 3 1))]) := hD
  refine cl_Vi (As := [.int p1, .int p2]) (rest := [.ref (ad 0)]) (L := [[((ad 0), .inr (8, [.ref (ad (0 + 1)), .ref (ad (0 + 29)), .ref (ad (0 + 57)), .int (q2 1 3 2 0 0), .ref (ad (0 + 85)), .ref (ad (0 + 199)), .ref (ad (0 + 202))]))], (w_X5 ad (0 + 1) cs (q2 1 0)), (w_X5 ad (0 + 29) cs (q2 1 1)), (w_X5 ad (0 + 57) cs (q2 1 2)), (w_X3 ad (0 + 85) cs (q2 0)), (w_X2 ad (0 + 199) cs (q2 1 3 0)), (w_X7 ad (0 + 202) cs en (q2 1 3 1))]) (L' := [[((ad 0), .inr (8, [.ref (ad (0 + 1)), .ref (ad (0 + 29)), .ref (ad (0 + 57)), .int ((sU q2 1 (sU (q2 1) 1 q7.2)) 1 3 2 0 0), .ref (ad (0 + 85)), .ref (ad (0 + 199)), .ref (ad (0 + 202))]))], (w_X5 ad (0 + 1) cs ((sU q2 1 (sU (q2 1) 1 q7.2)) 1 0)), (w_X5 ad (0 + 29) cs ((sU q2 1 (sU (q2 1) 1 q7.2)) 1 1)), (w_X5 ad (0 + 57) cs ((sU q2 1 (sU (q2 1) 1 q7.2)) 1 2)), (w_X3 ad (0 + 85) cs ((sU q2 1 (sU (q2 1) 1 q7.2)) 0)), (w_X2 ad (0 + 199) cs ((sU q2 1 (sU (q2 1) 1 q7.2)) 1 3 0)), (w_X7 ad (0 + 202) cs en ((sU q2 1 (sU (q2 1) 1 q7.2)) 1 3 1))]) (Wc := [(w_X5 ad (0 + 29) cs (q2 1 1))]) (Wc' := [(w_X5 ad (0 + 29) cs q7.2)]) (is := [2]) (js := [0, 1, 3, 4, 5, 6]) ⟨hx, hb, hml, hown, hts⟩ (k_X5_endRide l dC dI cs ad (0 + 29) H2.size (q2 1 1) p1 p2 q7.1 q7.2 gq7) (cwV 2 hts gX10_back_X5_endRide rfl rfl rfl cd_X5_endRide ⟨Nat.le_of_ble_eq_true rfl, Nat.le_of_ble_eq_true rfl⟩) hK hP hD hS hA ⟨rfl, rfl, rfl, rfl, rfl, rfl⟩ (jn_nd (is := [2]) hD rfl rfl) 29 4 rfl rfl rfl rfl rfl hl.1 (Nat.le_of_ble_eq_true rfl) dX10_back_7 (fun H7 locs7 hP' hD' hS' => ?_)
  replace hS := hS'
  have hP' : va_P (dC, dI) vwCl (fl [(w_X10 ad (0) cs en (sU q2 1 (sU (q2 1) 1 q7.2)))]) H7 := hP'
  have hD' : va_D A (fl [(w_X10 ad (0) cs en (sU q2 1 (sU (q2 1) 1 q7.2)))]) := hD'
  replace hR := bn_e hR
  obtain ⟨S1_7, eS1_7, hR⟩ := hR
  replace hP : va_P (dC, dI) vwCl (fl [(w_X10 ad (0) cs en S1_7)]) H7 := by rw [eS1_7]; exact hP'
  replace hD : va_D A (fl [(w_X10 ad (0) cs en S1_7)]) := by rw [eS1_7]; exact hD'
  clear hP' hD' hS'
  replace hR := bd_e hR
  obtain ⟨q10, gq10, hR⟩ := hR
  refine cl_Vi (As := [.int q7.1]) (rest := []) (L := [(w_X10 ad (0) cs en S1_7)]) (L' := [(w_X10 ad (0) cs en q10.2)]) (Wc := [(w_X10 ad (0) cs en S1_7)]) (Wc' := [(w_X10 ad (0) cs en q10.2)]) (is := [0]) (js := []) ⟨hx, hb, hml, hown, hts⟩ (k_X10_settle l dC dI cs ad en H7.size S1_7 q7.1 q10.1 q10.2 gq10) (cwV 1 hts gX10_back_X10_settle rfl rfl rfl cd_X10_settle ⟨Nat.le_of_ble_eq_true rfl, Nat.le_of_ble_eq_true rfl⟩) hK hP hD hS hA ⟨rfl, rfl, rfl, rfl, rfl, rfl⟩ (jn_nd (is := [0]) hD rfl rfl) 0 8 rfl rfl rfl rfl rfl hl.1 (Nat.le_of_ble_eq_true rfl) dX10_back_10 (fun H10 locs10 hP' hD' hS' => ?_)
  replace hS := hS'
  replace hP : va_P (dC, dI) vwCl (fl [(w_X10 ad (0) cs en q10.2)]) H10 := hP'
  replace hD : va_D A (fl [(w_X10 ad (0) cs en q10.2)]) := hD'
  clear hP' hD' hS'
  replace hR := Option.some.inj hR
  obtain ⟨e9, hR⟩ := Prod.mk.inj hR
  have eu1 := hR
  replace hP : va_P (dC, dI) vwCl (fl [(w_X10 ad (0) cs en u1)]) H10 := by rw [← eu1]; exact hP
  replace hD : va_D A (fl [(w_X10 ad (0) cs en u1)]) := by rw [← eu1]; exact hD
  exact W.iret hx hb hr (fun t ht hW => ⟨⟨_, (), rfl, e9, by rw [ht]; exact hP, va_K.moved hW.alike hK, hD⟩, hS.F ht⟩) hS.2.2 dX10_back_13
set_option maxHeartbeats 8000000 in
set_option maxRecDepth 100000 in
theorem k_X10_full (l : Launch) (dC : Nat → ClassId) (dI : Nat → Nat → Nat) (cs : Nat → ClassId) (ad : Nat → Nat) (en : Nat → Nat) (sz : Nat) (S1 : T5) (p1 : Int32) (p2 : Int32) (r : Int32) (u1 : T5) (hR : fX10_full S1 p1 p2 = some (r, u1)) : Met l yX10_full wsX10_full ({ frames := 5, cells := 0, slots := 0, locals := 115 } : Room) (va_Pc [.ref (ad 0), .int p1, .int p2] (pW dC dI (tyL cs) (fl [(w_X10 ad (0) cs en S1)]) sz)) (QI dC dI (tyL cs) (va_A (fl [(w_X10 ad (0) cs en S1)]) sz) (fl [(w_X10 ad (0) cs en u1)]) r) 0 0 (va_A (fl [(w_X10 ad (0) cs en S1)]) sz) := by
  refine mt_of (own := RX10) (cc := cX10_full) (maxL := 3) (ret := (some .int)) (Qc := fun A => QI dC dI (tyL cs) A (fl [(w_X10 ad (0) cs en u1)]) r) rfl (by decide) rfl (Nat.le_of_ble_eq_true rfl) (fun p e s m below meth c A ls hsz hx hb hr hts hown hlocks hml hA hK hP hD hS hl => ?_)
  subst hsz
  have hl : lv_has ls 3 [(0, .ref (ad 0)), (1, .int p1), (2, .int p2)] := hl
  refine lv_aload_n hx hb dX10_full_0 rfl (lv_at hl 0 rfl) ?_
  refine lv_aload_n hx hb dX10_full_1 rfl (lv_at hl 0 rfl) ?_
  replace hR := bd_e hR
  obtain ⟨q2, gq2, hR⟩ := hR
  refine cl_Va (As := []) (rest := [.ref (ad 0)]) (L := [(w_X10 ad (0) cs en S1)]) (L' := [(w_X10 ad (0) cs en q2)]) (Wc := [(w_X10 ad (0) cs en S1)]) (Wc' := [(w_X10 ad (0) cs en q2)]) (is := [0]) (js := []) ⟨hx, hb, hml, hown, hts⟩ (k_X10_freshDraft l dC dI cs ad en s.heap.size S1 q2 gq2) (cwV 0 hts gX10_full_X10_freshDraft rfl rfl rfl cd_X10_freshDraft ⟨Nat.le_of_ble_eq_true rfl, Nat.le_of_ble_eq_true rfl⟩) hK hP hD hS hA ⟨rfl, rfl, rfl, rfl, rfl, rfl⟩ (jn_nd (is := [0]) hD rfl rfl) 0 8 rfl rfl rfl rfl rfl hl.1 (Nat.le_of_ble_eq_true rfl) dX10_full_2 (fun H2 locs2 hP' hD' hS' => ?_)
  replace hS := hS'
  replace hP : va_P (dC, dI) vwCl (fl [(w_X10 ad (0) cs en q2)]) H2 := hP'
  replace hD : va_D A (fl [(w_X10 ad (0) cs en q2)]) := hD'
  clear hP' hD' hS'
  refine lv_iload_n hx hb dX10_full_5 rfl (lv_at hl 1 rfl) ?_
  refine lv_iload_n hx hb dX10_full_6 rfl (lv_at hl 2 rfl) ?_
  replace hR := bd_e hR
  obtain ⟨q7, gq7, hR⟩ := hR
  replace hP : va_P (dC, dI) vwCl (fl [[((ad 0), .inr (8, [.ref (ad (0 + 1)), .ref (ad (0 + 29)), .ref (ad (0 + 57)), .int (q2 1 3 2 0 0), .ref (ad (0 + 85)), .ref (ad (0 + 199)), .ref (ad (0 + 202))]))], (w_X5 ad (0 + 1) cs (q2 1 0)), (w_X5 ad (0 + 29) cs (q2 1 1)), (w_X5 ad (0 + 57) cs (q2 1 2)), (w_X3 ad (0 + 85) cs (q2 0)), (w_X2 ad (0 + 199) cs (q2 1 3 0)), (w_X7 ad (0 + 202) cs en (q2 1 3 1))]) H2 := hP
  replace hD : va_D A (fl [[((ad 0), .inr (8, [.ref (ad (0 + 1)), .ref (ad (0 + 29)), .ref (ad (0 + 57)), .int (q2 1 3 2 0 0), .ref (ad (0 + 85)), .ref (ad (0 + 199)), .ref (ad (0 + 202))]))], (w_X5 ad (0 + 1) cs (q2 1 0)), (w_X5 ad (0 + 29) cs (q2 1 1)), (w_X5 ad (0 + 57) cs (q2 1 2)), (w_X3 ad (0 + 85) cs (q2 0)), (w_X2 ad (0 + 199) cs (q2 1 3 0)), (w_X7 ad (0 + 202) cs en (q2 1 3 1))]) := hD
  refine cl_Vi (As := [.int p1, .int p2]) (rest := [.ref (ad 0)]) (L := [[((ad 0), .inr (8, [.ref (ad (0 + 1)), .ref (ad (0 + 29)), .ref (ad (0 + 57)), .int (q2 1 3 2 0 0), .ref (ad (0 + 85)), .ref (ad (0 + 199)), .ref (ad (0 + 202))]))], (w_X5 ad (0 + 1) cs (q2 1 0)), (w_X5 ad (0 + 29) cs (q2 1 1)), (w_X5 ad (0 + 57) cs (q2 1 2)), (w_X3 ad (0 + 85) cs (q2 0)), (w_X2 ad (0 + 199) cs (q2 1 3 0)), (w_X7 ad (0 + 202) cs en (q2 1 3 1))]) (L' := [[((ad 0), .inr (8, [.ref (ad (0 + 1)), .ref (ad (0 + 29)), .ref (ad (0 + 57)), .int ((sU q2 1 (sU (q2 1) 1 q7.2)) 1 3 2 0 0), .ref (ad (0 + 85)), .ref (ad (0 + 199)), .ref (ad (0 + 202))]))], (w_X5 ad (0 + 1) cs ((sU q2 1 (sU (q2 1) 1 q7.2)) 1 0)), (w_X5 ad (0 + 29) cs ((sU q2 1 (sU (q2 1) 1 q7.2)) 1 1)), (w_X5 ad (0 + 57) cs ((sU q2 1 (sU (q2 1) 1 q7.2)) 1 2)), (w_X3 ad (0 + 85) cs ((sU q2 1 (sU (q2 1) 1 q7.2)) 0)), (w_X2 ad (0 + 199) cs ((sU q2 1 (sU (q2 1) 1 q7.2)) 1 3 0)), (w_X7 ad (0 + 202) cs en ((sU q2 1 (sU (q2 1) 1 q7.2)) 1 3 1))]) (Wc := [(w_X5 ad (0 + 29) cs (q2 1 1))]) (Wc' := [(w_X5 ad (0 + 29) cs q7.2)]) (is := [2]) (js := [0, 1, 3, 4, 5, 6]) ⟨hx, hb, hml, hown, hts⟩ (k_X5_tellFull l dC dI cs ad (0 + 29) H2.size (q2 1 1) p1 p2 q7.1 q7.2 gq7) (cwV 2 hts gX10_full_X5_tellFull rfl rfl rfl cd_X5_tellFull ⟨Nat.le_of_ble_eq_true rfl, Nat.le_of_ble_eq_true rfl⟩) hK hP hD hS hA ⟨rfl, rfl, rfl, rfl, rfl, rfl⟩ (jn_nd (is := [2]) hD rfl rfl) 29 4 rfl rfl rfl rfl rfl hl.1 (Nat.le_of_ble_eq_true rfl) dX10_full_7 (fun H7 locs7 hP' hD' hS' => ?_)
  replace hS := hS'
  have hP' : va_P (dC, dI) vwCl (fl [(w_X10 ad (0) cs en (sU q2 1 (sU (q2 1) 1 q7.2)))]) H7 := hP'
  have hD' : va_D A (fl [(w_X10 ad (0) cs en (sU q2 1 (sU (q2 1) 1 q7.2)))]) := hD'
  replace hR := bn_e hR
  obtain ⟨S1_7, eS1_7, hR⟩ := hR
  replace hP : va_P (dC, dI) vwCl (fl [(w_X10 ad (0) cs en S1_7)]) H7 := by rw [eS1_7]; exact hP'
  replace hD : va_D A (fl [(w_X10 ad (0) cs en S1_7)]) := by rw [eS1_7]; exact hD'
  clear hP' hD' hS'
  replace hR := bd_e hR
  obtain ⟨q10, gq10, hR⟩ := hR
  refine cl_Vi (As := [.int q7.1]) (rest := []) (L := [(w_X10 ad (0) cs en S1_7)]) (L' := [(w_X10 ad (0) cs en q10.2)]) (Wc := [(w_X10 ad (0) cs en S1_7)]) (Wc' := [(w_X10 ad (0) cs en q10.2)]) (is := [0]) (js := []) ⟨hx, hb, hml, hown, hts⟩ (k_X10_settle l dC dI cs ad en H7.size S1_7 q7.1 q10.1 q10.2 gq10) (cwV 1 hts gX10_full_X10_settle rfl rfl rfl cd_X10_settle ⟨Nat.le_of_ble_eq_true rfl, Nat.le_of_ble_eq_true rfl⟩) hK hP hD hS hA ⟨rfl, rfl, rfl, rfl, rfl, rfl⟩ (jn_nd (is := [0]) hD rfl rfl) 0 8 rfl rfl rfl rfl rfl hl.1 (Nat.le_of_ble_eq_true rfl) dX10_full_10 (fun H10 locs10 hP' hD' hS' => ?_)
  replace hS := hS'
  replace hP : va_P (dC, dI) vwCl (fl [(w_X10 ad (0) cs en q10.2)]) H10 := hP'
  replace hD : va_D A (fl [(w_X10 ad (0) cs en q10.2)]) := hD'
  clear hP' hD' hS'
  replace hR := Option.some.inj hR
  obtain ⟨e9, hR⟩ := Prod.mk.inj hR
  have eu1 := hR
  replace hP : va_P (dC, dI) vwCl (fl [(w_X10 ad (0) cs en u1)]) H10 := by rw [← eu1]; exact hP
  replace hD : va_D A (fl [(w_X10 ad (0) cs en u1)]) := by rw [← eu1]; exact hD
  exact W.iret hx hb hr (fun t ht hW => ⟨⟨_, (), rfl, e9, by rw [ht]; exact hP, va_K.moved hW.alike hK, hD⟩, hS.F ht⟩) hS.2.2 dX10_full_13
set_option maxHeartbeats 8000000 in
set_option maxRecDepth 100000 in
theorem k_X10_report (l : Launch) (dC : Nat → ClassId) (dI : Nat → Nat → Nat) (cs : Nat → ClassId) (ad : Nat → Nat) (en : Nat → Nat) (sz : Nat) (S1 : T5) (p1 : Int32) (r : Int32) (u1 : T5) (hR : fX10_report S1 p1 = some (r, u1)) : Met l yX10_report wsX10_report ({ frames := 5, cells := 0, slots := 0, locals := 115 } : Room) (va_Pc [.ref (ad 0), .int p1] (pW dC dI (tyL cs) (fl [(w_X10 ad (0) cs en S1)]) sz)) (QI dC dI (tyL cs) (va_A (fl [(w_X10 ad (0) cs en S1)]) sz) (fl [(w_X10 ad (0) cs en u1)]) r) 0 0 (va_A (fl [(w_X10 ad (0) cs en S1)]) sz) := by
  refine mt_of (own := RX10) (cc := cX10_report) (maxL := 2) (ret := (some .int)) (Qc := fun A => QI dC dI (tyL cs) A (fl [(w_X10 ad (0) cs en u1)]) r) rfl (by decide) rfl (Nat.le_of_ble_eq_true rfl) (fun p e s m below meth c A ls hsz hx hb hr hts hown hlocks hml hA hK hP hD hS hl => ?_)
  subst hsz
  have hl : lv_has ls 2 [(0, .ref (ad 0)), (1, .int p1)] := hl
  refine lv_aload_n hx hb dX10_report_0 rfl (lv_at hl 0 rfl) ?_
  refine lv_aload_n hx hb dX10_report_1 rfl (lv_at hl 0 rfl) ?_
  replace hR := bd_e hR
  obtain ⟨q2, gq2, hR⟩ := hR
  refine cl_Va (As := []) (rest := [.ref (ad 0)]) (L := [(w_X10 ad (0) cs en S1)]) (L' := [(w_X10 ad (0) cs en q2)]) (Wc := [(w_X10 ad (0) cs en S1)]) (Wc' := [(w_X10 ad (0) cs en q2)]) (is := [0]) (js := []) ⟨hx, hb, hml, hown, hts⟩ (k_X10_freshDraft l dC dI cs ad en s.heap.size S1 q2 gq2) (cwV 0 hts gX10_report_X10_freshDraft rfl rfl rfl cd_X10_freshDraft ⟨Nat.le_of_ble_eq_true rfl, Nat.le_of_ble_eq_true rfl⟩) hK hP hD hS hA ⟨rfl, rfl, rfl, rfl, rfl, rfl⟩ (jn_nd (is := [0]) hD rfl rfl) 0 8 rfl rfl rfl rfl rfl hl.1 (Nat.le_of_ble_eq_true rfl) dX10_report_2 (fun H2 locs2 hP' hD' hS' => ?_)
  replace hS := hS'
  replace hP : va_P (dC, dI) vwCl (fl [(w_X10 ad (0) cs en q2)]) H2 := hP'
  replace hD : va_D A (fl [(w_X10 ad (0) cs en q2)]) := hD'
  clear hP' hD' hS'
  refine lv_iload_n hx hb dX10_report_5 rfl (lv_at hl 1 rfl) ?_
  replace hR := bd_e hR
  obtain ⟨q6, gq6, hR⟩ := hR
  replace hP : va_P (dC, dI) vwCl (fl [[((ad 0), .inr (8, [.ref (ad (0 + 1)), .ref (ad (0 + 29)), .ref (ad (0 + 57)), .int (q2 1 3 2 0 0), .ref (ad (0 + 85)), .ref (ad (0 + 199)), .ref (ad (0 + 202))]))], (w_X5 ad (0 + 1) cs (q2 1 0)), (w_X5 ad (0 + 29) cs (q2 1 1)), (w_X5 ad (0 + 57) cs (q2 1 2)), (w_X3 ad (0 + 85) cs (q2 0)), (w_X2 ad (0 + 199) cs (q2 1 3 0)), (w_X7 ad (0 + 202) cs en (q2 1 3 1))]) H2 := hP
  replace hD : va_D A (fl [[((ad 0), .inr (8, [.ref (ad (0 + 1)), .ref (ad (0 + 29)), .ref (ad (0 + 57)), .int (q2 1 3 2 0 0), .ref (ad (0 + 85)), .ref (ad (0 + 199)), .ref (ad (0 + 202))]))], (w_X5 ad (0 + 1) cs (q2 1 0)), (w_X5 ad (0 + 29) cs (q2 1 1)), (w_X5 ad (0 + 57) cs (q2 1 2)), (w_X3 ad (0 + 85) cs (q2 0)), (w_X2 ad (0 + 199) cs (q2 1 3 0)), (w_X7 ad (0 + 202) cs en (q2 1 3 1))]) := hD
  refine cl_Vi (As := [.int p1]) (rest := [.ref (ad 0)]) (L := [[((ad 0), .inr (8, [.ref (ad (0 + 1)), .ref (ad (0 + 29)), .ref (ad (0 + 57)), .int (q2 1 3 2 0 0), .ref (ad (0 + 85)), .ref (ad (0 + 199)), .ref (ad (0 + 202))]))], (w_X5 ad (0 + 1) cs (q2 1 0)), (w_X5 ad (0 + 29) cs (q2 1 1)), (w_X5 ad (0 + 57) cs (q2 1 2)), (w_X3 ad (0 + 85) cs (q2 0)), (w_X2 ad (0 + 199) cs (q2 1 3 0)), (w_X7 ad (0 + 202) cs en (q2 1 3 1))]) (L' := [[((ad 0), .inr (8, [.ref (ad (0 + 1)), .ref (ad (0 + 29)), .ref (ad (0 + 57)), .int ((sU q2 1 (sU (q2 1) 1 q6.2)) 1 3 2 0 0), .ref (ad (0 + 85)), .ref (ad (0 + 199)), .ref (ad (0 + 202))]))], (w_X5 ad (0 + 1) cs ((sU q2 1 (sU (q2 1) 1 q6.2)) 1 0)), (w_X5 ad (0 + 29) cs ((sU q2 1 (sU (q2 1) 1 q6.2)) 1 1)), (w_X5 ad (0 + 57) cs ((sU q2 1 (sU (q2 1) 1 q6.2)) 1 2)), (w_X3 ad (0 + 85) cs ((sU q2 1 (sU (q2 1) 1 q6.2)) 0)), (w_X2 ad (0 + 199) cs ((sU q2 1 (sU (q2 1) 1 q6.2)) 1 3 0)), (w_X7 ad (0 + 202) cs en ((sU q2 1 (sU (q2 1) 1 q6.2)) 1 3 1))]) (Wc := [(w_X5 ad (0 + 29) cs (q2 1 1))]) (Wc' := [(w_X5 ad (0 + 29) cs q6.2)]) (is := [2]) (js := [0, 1, 3, 4, 5, 6]) ⟨hx, hb, hml, hown, hts⟩ (k_X5_tellFaulty l dC dI cs ad (0 + 29) H2.size (q2 1 1) p1 q6.1 q6.2 gq6) (cwV 1 hts gX10_report_X5_tellFaulty rfl rfl rfl cd_X5_tellFaulty ⟨Nat.le_of_ble_eq_true rfl, Nat.le_of_ble_eq_true rfl⟩) hK hP hD hS hA ⟨rfl, rfl, rfl, rfl, rfl, rfl⟩ (jn_nd (is := [2]) hD rfl rfl) 29 4 rfl rfl rfl rfl rfl hl.1 (Nat.le_of_ble_eq_true rfl) dX10_report_6 (fun H6 locs6 hP' hD' hS' => ?_)
  replace hS := hS'
  have hP' : va_P (dC, dI) vwCl (fl [(w_X10 ad (0) cs en (sU q2 1 (sU (q2 1) 1 q6.2)))]) H6 := hP'
  have hD' : va_D A (fl [(w_X10 ad (0) cs en (sU q2 1 (sU (q2 1) 1 q6.2)))]) := hD'
  replace hR := bn_e hR
  obtain ⟨S1_6, eS1_6, hR⟩ := hR
  replace hP : va_P (dC, dI) vwCl (fl [(w_X10 ad (0) cs en S1_6)]) H6 := by rw [eS1_6]; exact hP'
  replace hD : va_D A (fl [(w_X10 ad (0) cs en S1_6)]) := by rw [eS1_6]; exact hD'
  clear hP' hD' hS'
  replace hR := bd_e hR
  obtain ⟨q9, gq9, hR⟩ := hR
  refine cl_Vi (As := [.int q6.1]) (rest := []) (L := [(w_X10 ad (0) cs en S1_6)]) (L' := [(w_X10 ad (0) cs en q9.2)]) (Wc := [(w_X10 ad (0) cs en S1_6)]) (Wc' := [(w_X10 ad (0) cs en q9.2)]) (is := [0]) (js := []) ⟨hx, hb, hml, hown, hts⟩ (k_X10_settle l dC dI cs ad en H6.size S1_6 q6.1 q9.1 q9.2 gq9) (cwV 1 hts gX10_report_X10_settle rfl rfl rfl cd_X10_settle ⟨Nat.le_of_ble_eq_true rfl, Nat.le_of_ble_eq_true rfl⟩) hK hP hD hS hA ⟨rfl, rfl, rfl, rfl, rfl, rfl⟩ (jn_nd (is := [0]) hD rfl rfl) 0 8 rfl rfl rfl rfl rfl hl.1 (Nat.le_of_ble_eq_true rfl) dX10_report_9 (fun H9 locs9 hP' hD' hS' => ?_)
  replace hS := hS'
  replace hP : va_P (dC, dI) vwCl (fl [(w_X10 ad (0) cs en q9.2)]) H9 := hP'
  replace hD : va_D A (fl [(w_X10 ad (0) cs en q9.2)]) := hD'
  clear hP' hD' hS'
  replace hR := Option.some.inj hR
  obtain ⟨e9, hR⟩ := Prod.mk.inj hR
  have eu1 := hR
  replace hP : va_P (dC, dI) vwCl (fl [(w_X10 ad (0) cs en u1)]) H9 := by rw [← eu1]; exact hP
  replace hD : va_D A (fl [(w_X10 ad (0) cs en u1)]) := by rw [← eu1]; exact hD
  exact W.iret hx hb hr (fun t ht hW => ⟨⟨_, (), rfl, e9, by rw [ht]; exact hP, va_K.moved hW.alike hK, hD⟩, hS.F ht⟩) hS.2.2 dX10_report_12
set_option maxHeartbeats 8000000 in
set_option maxRecDepth 100000 in
theorem k_X10_take (l : Launch) (dC : Nat → ClassId) (dI : Nat → Nat → Nat) (cs : Nat → ClassId) (ad : Nat → Nat) (en : Nat → Nat) (sz : Nat) (S1 : T5) (p1 : Int32) (p2 : Int32) (r : Int32) (u1 : T5) (hR : fX10_take S1 p1 p2 = some (r, u1)) : Met l yX10_take wsX10_take ({ frames := 5, cells := 0, slots := 0, locals := 115 } : Room) (va_Pc [.ref (ad 0), .int p1, .int p2] (pW dC dI (tyL cs) (fl [(w_X10 ad (0) cs en S1)]) sz)) (QI dC dI (tyL cs) (va_A (fl [(w_X10 ad (0) cs en S1)]) sz) (fl [(w_X10 ad (0) cs en u1)]) r) 0 0 (va_A (fl [(w_X10 ad (0) cs en S1)]) sz) := by
  refine mt_of (own := RX10) (cc := cX10_take) (maxL := 3) (ret := (some .int)) (Qc := fun A => QI dC dI (tyL cs) A (fl [(w_X10 ad (0) cs en u1)]) r) rfl (by decide) rfl (Nat.le_of_ble_eq_true rfl) (fun p e s m below meth c A ls hsz hx hb hr hts hown hlocks hml hA hK hP hD hS hl => ?_)
  subst hsz
  have hl : lv_has ls 3 [(0, .ref (ad 0)), (1, .int p1), (2, .int p2)] := hl
  refine lv_aload_n hx hb dX10_take_0 rfl (lv_at hl 0 rfl) ?_
  refine lv_aload_n hx hb dX10_take_1 rfl (lv_at hl 0 rfl) ?_
  replace hR := bd_e hR
  obtain ⟨q2, gq2, hR⟩ := hR
  refine cl_Va (As := []) (rest := [.ref (ad 0)]) (L := [(w_X10 ad (0) cs en S1)]) (L' := [(w_X10 ad (0) cs en q2)]) (Wc := [(w_X10 ad (0) cs en S1)]) (Wc' := [(w_X10 ad (0) cs en q2)]) (is := [0]) (js := []) ⟨hx, hb, hml, hown, hts⟩ (k_X10_freshDraft l dC dI cs ad en s.heap.size S1 q2 gq2) (cwV 0 hts gX10_take_X10_freshDraft rfl rfl rfl cd_X10_freshDraft ⟨Nat.le_of_ble_eq_true rfl, Nat.le_of_ble_eq_true rfl⟩) hK hP hD hS hA ⟨rfl, rfl, rfl, rfl, rfl, rfl⟩ (jn_nd (is := [0]) hD rfl rfl) 0 8 rfl rfl rfl rfl rfl hl.1 (Nat.le_of_ble_eq_true rfl) dX10_take_2 (fun H2 locs2 hP' hD' hS' => ?_)
  replace hS := hS'
  replace hP : va_P (dC, dI) vwCl (fl [(w_X10 ad (0) cs en q2)]) H2 := hP'
  replace hD : va_D A (fl [(w_X10 ad (0) cs en q2)]) := hD'
  clear hP' hD' hS'
  refine lv_iload_n hx hb dX10_take_5 rfl (lv_at hl 1 rfl) ?_
  refine lv_iload_n hx hb dX10_take_6 rfl (lv_at hl 2 rfl) ?_
  replace hR := bd_e hR
  obtain ⟨q7, gq7, hR⟩ := hR
  replace hP : va_P (dC, dI) vwCl (fl [[((ad 0), .inr (8, [.ref (ad (0 + 1)), .ref (ad (0 + 29)), .ref (ad (0 + 57)), .int (q2 1 3 2 0 0), .ref (ad (0 + 85)), .ref (ad (0 + 199)), .ref (ad (0 + 202))]))], (w_X5 ad (0 + 1) cs (q2 1 0)), (w_X5 ad (0 + 29) cs (q2 1 1)), (w_X5 ad (0 + 57) cs (q2 1 2)), (w_X3 ad (0 + 85) cs (q2 0)), (w_X2 ad (0 + 199) cs (q2 1 3 0)), (w_X7 ad (0 + 202) cs en (q2 1 3 1))]) H2 := hP
  replace hD : va_D A (fl [[((ad 0), .inr (8, [.ref (ad (0 + 1)), .ref (ad (0 + 29)), .ref (ad (0 + 57)), .int (q2 1 3 2 0 0), .ref (ad (0 + 85)), .ref (ad (0 + 199)), .ref (ad (0 + 202))]))], (w_X5 ad (0 + 1) cs (q2 1 0)), (w_X5 ad (0 + 29) cs (q2 1 1)), (w_X5 ad (0 + 57) cs (q2 1 2)), (w_X3 ad (0 + 85) cs (q2 0)), (w_X2 ad (0 + 199) cs (q2 1 3 0)), (w_X7 ad (0 + 202) cs en (q2 1 3 1))]) := hD
  refine cl_Vi (As := [.int p1, .int p2]) (rest := [.ref (ad 0)]) (L := [[((ad 0), .inr (8, [.ref (ad (0 + 1)), .ref (ad (0 + 29)), .ref (ad (0 + 57)), .int (q2 1 3 2 0 0), .ref (ad (0 + 85)), .ref (ad (0 + 199)), .ref (ad (0 + 202))]))], (w_X5 ad (0 + 1) cs (q2 1 0)), (w_X5 ad (0 + 29) cs (q2 1 1)), (w_X5 ad (0 + 57) cs (q2 1 2)), (w_X3 ad (0 + 85) cs (q2 0)), (w_X2 ad (0 + 199) cs (q2 1 3 0)), (w_X7 ad (0 + 202) cs en (q2 1 3 1))]) (L' := [[((ad 0), .inr (8, [.ref (ad (0 + 1)), .ref (ad (0 + 29)), .ref (ad (0 + 57)), .int ((sU q2 1 (sU (q2 1) 1 q7.2)) 1 3 2 0 0), .ref (ad (0 + 85)), .ref (ad (0 + 199)), .ref (ad (0 + 202))]))], (w_X5 ad (0 + 1) cs ((sU q2 1 (sU (q2 1) 1 q7.2)) 1 0)), (w_X5 ad (0 + 29) cs ((sU q2 1 (sU (q2 1) 1 q7.2)) 1 1)), (w_X5 ad (0 + 57) cs ((sU q2 1 (sU (q2 1) 1 q7.2)) 1 2)), (w_X3 ad (0 + 85) cs ((sU q2 1 (sU (q2 1) 1 q7.2)) 0)), (w_X2 ad (0 + 199) cs ((sU q2 1 (sU (q2 1) 1 q7.2)) 1 3 0)), (w_X7 ad (0 + 202) cs en ((sU q2 1 (sU (q2 1) 1 q7.2)) 1 3 1))]) (Wc := [(w_X5 ad (0 + 29) cs (q2 1 1))]) (Wc' := [(w_X5 ad (0 + 29) cs q7.2)]) (is := [2]) (js := [0, 1, 3, 4, 5, 6]) ⟨hx, hb, hml, hown, hts⟩ (k_X5_load l dC dI cs ad (0 + 29) H2.size (q2 1 1) p1 p2 q7.1 q7.2 gq7) (cwV 2 hts gX10_take_X5_load rfl rfl rfl cd_X5_load ⟨Nat.le_of_ble_eq_true rfl, Nat.le_of_ble_eq_true rfl⟩) hK hP hD hS hA ⟨rfl, rfl, rfl, rfl, rfl, rfl⟩ (jn_nd (is := [2]) hD rfl rfl) 29 4 rfl rfl rfl rfl rfl hl.1 (Nat.le_of_ble_eq_true rfl) dX10_take_7 (fun H7 locs7 hP' hD' hS' => ?_)
  replace hS := hS'
  have hP' : va_P (dC, dI) vwCl (fl [(w_X10 ad (0) cs en (sU q2 1 (sU (q2 1) 1 q7.2)))]) H7 := hP'
  have hD' : va_D A (fl [(w_X10 ad (0) cs en (sU q2 1 (sU (q2 1) 1 q7.2)))]) := hD'
  replace hR := bn_e hR
  obtain ⟨S1_7, eS1_7, hR⟩ := hR
  replace hP : va_P (dC, dI) vwCl (fl [(w_X10 ad (0) cs en S1_7)]) H7 := by rw [eS1_7]; exact hP'
  replace hD : va_D A (fl [(w_X10 ad (0) cs en S1_7)]) := by rw [eS1_7]; exact hD'
  clear hP' hD' hS'
  replace hR := bd_e hR
  obtain ⟨q10, gq10, hR⟩ := hR
  refine cl_Vi (As := [.int q7.1]) (rest := []) (L := [(w_X10 ad (0) cs en S1_7)]) (L' := [(w_X10 ad (0) cs en q10.2)]) (Wc := [(w_X10 ad (0) cs en S1_7)]) (Wc' := [(w_X10 ad (0) cs en q10.2)]) (is := [0]) (js := []) ⟨hx, hb, hml, hown, hts⟩ (k_X10_settle l dC dI cs ad en H7.size S1_7 q7.1 q10.1 q10.2 gq10) (cwV 1 hts gX10_take_X10_settle rfl rfl rfl cd_X10_settle ⟨Nat.le_of_ble_eq_true rfl, Nat.le_of_ble_eq_true rfl⟩) hK hP hD hS hA ⟨rfl, rfl, rfl, rfl, rfl, rfl⟩ (jn_nd (is := [0]) hD rfl rfl) 0 8 rfl rfl rfl rfl rfl hl.1 (Nat.le_of_ble_eq_true rfl) dX10_take_10 (fun H10 locs10 hP' hD' hS' => ?_)
  replace hS := hS'
  replace hP : va_P (dC, dI) vwCl (fl [(w_X10 ad (0) cs en q10.2)]) H10 := hP'
  replace hD : va_D A (fl [(w_X10 ad (0) cs en q10.2)]) := hD'
  clear hP' hD' hS'
  replace hR := Option.some.inj hR
  obtain ⟨e9, hR⟩ := Prod.mk.inj hR
  have eu1 := hR
  replace hP : va_P (dC, dI) vwCl (fl [(w_X10 ad (0) cs en u1)]) H10 := by rw [← eu1]; exact hP
  replace hD : va_D A (fl [(w_X10 ad (0) cs en u1)]) := by rw [← eu1]; exact hD
  exact W.iret hx hb hr (fun t ht hW => ⟨⟨_, (), rfl, e9, by rw [ht]; exact hP, va_K.moved hW.alike hK, hD⟩, hS.F ht⟩) hS.2.2 dX10_take_13
set_option maxHeartbeats 8000000 in
set_option maxRecDepth 100000 in
theorem k_X10_put (l : Launch) (dC : Nat → ClassId) (dI : Nat → Nat → Nat) (cs : Nat → ClassId) (ad : Nat → Nat) (en : Nat → Nat) (sz : Nat) (S1 : T5) (p1 : Int32) (p2 : Int32) (r : Int32) (u1 : T5) (hR : fX10_put S1 p1 p2 = some (r, u1)) : Met l yX10_put wsX10_put ({ frames := 5, cells := 0, slots := 0, locals := 115 } : Room) (va_Pc [.ref (ad 0), .int p1, .int p2] (pW dC dI (tyL cs) (fl [(w_X10 ad (0) cs en S1)]) sz)) (QI dC dI (tyL cs) (va_A (fl [(w_X10 ad (0) cs en S1)]) sz) (fl [(w_X10 ad (0) cs en u1)]) r) 0 0 (va_A (fl [(w_X10 ad (0) cs en S1)]) sz) := by
  refine mt_of (own := RX10) (cc := cX10_put) (maxL := 3) (ret := (some .int)) (Qc := fun A => QI dC dI (tyL cs) A (fl [(w_X10 ad (0) cs en u1)]) r) rfl (by decide) rfl (Nat.le_of_ble_eq_true rfl) (fun p e s m below meth c A ls hsz hx hb hr hts hown hlocks hml hA hK hP hD hS hl => ?_)
  subst hsz
  have hl : lv_has ls 3 [(0, .ref (ad 0)), (1, .int p1), (2, .int p2)] := hl
  refine lv_aload_n hx hb dX10_put_0 rfl (lv_at hl 0 rfl) ?_
  refine lv_aload_n hx hb dX10_put_1 rfl (lv_at hl 0 rfl) ?_
  replace hR := bd_e hR
  obtain ⟨q2, gq2, hR⟩ := hR
  refine cl_Va (As := []) (rest := [.ref (ad 0)]) (L := [(w_X10 ad (0) cs en S1)]) (L' := [(w_X10 ad (0) cs en q2)]) (Wc := [(w_X10 ad (0) cs en S1)]) (Wc' := [(w_X10 ad (0) cs en q2)]) (is := [0]) (js := []) ⟨hx, hb, hml, hown, hts⟩ (k_X10_freshDraft l dC dI cs ad en s.heap.size S1 q2 gq2) (cwV 0 hts gX10_put_X10_freshDraft rfl rfl rfl cd_X10_freshDraft ⟨Nat.le_of_ble_eq_true rfl, Nat.le_of_ble_eq_true rfl⟩) hK hP hD hS hA ⟨rfl, rfl, rfl, rfl, rfl, rfl⟩ (jn_nd (is := [0]) hD rfl rfl) 0 8 rfl rfl rfl rfl rfl hl.1 (Nat.le_of_ble_eq_true rfl) dX10_put_2 (fun H2 locs2 hP' hD' hS' => ?_)
  replace hS := hS'
  replace hP : va_P (dC, dI) vwCl (fl [(w_X10 ad (0) cs en q2)]) H2 := hP'
  replace hD : va_D A (fl [(w_X10 ad (0) cs en q2)]) := hD'
  clear hP' hD' hS'
  refine lv_iload_n hx hb dX10_put_5 rfl (lv_at hl 1 rfl) ?_
  refine lv_iload_n hx hb dX10_put_6 rfl (lv_at hl 2 rfl) ?_
  replace hR := bd_e hR
  obtain ⟨q7, gq7, hR⟩ := hR
  replace hP : va_P (dC, dI) vwCl (fl [[((ad 0), .inr (8, [.ref (ad (0 + 1)), .ref (ad (0 + 29)), .ref (ad (0 + 57)), .int (q2 1 3 2 0 0), .ref (ad (0 + 85)), .ref (ad (0 + 199)), .ref (ad (0 + 202))]))], (w_X5 ad (0 + 1) cs (q2 1 0)), (w_X5 ad (0 + 29) cs (q2 1 1)), (w_X5 ad (0 + 57) cs (q2 1 2)), (w_X3 ad (0 + 85) cs (q2 0)), (w_X2 ad (0 + 199) cs (q2 1 3 0)), (w_X7 ad (0 + 202) cs en (q2 1 3 1))]) H2 := hP
  replace hD : va_D A (fl [[((ad 0), .inr (8, [.ref (ad (0 + 1)), .ref (ad (0 + 29)), .ref (ad (0 + 57)), .int (q2 1 3 2 0 0), .ref (ad (0 + 85)), .ref (ad (0 + 199)), .ref (ad (0 + 202))]))], (w_X5 ad (0 + 1) cs (q2 1 0)), (w_X5 ad (0 + 29) cs (q2 1 1)), (w_X5 ad (0 + 57) cs (q2 1 2)), (w_X3 ad (0 + 85) cs (q2 0)), (w_X2 ad (0 + 199) cs (q2 1 3 0)), (w_X7 ad (0 + 202) cs en (q2 1 3 1))]) := hD
  refine cl_Vi (As := [.int p1, .int p2]) (rest := [.ref (ad 0)]) (L := [[((ad 0), .inr (8, [.ref (ad (0 + 1)), .ref (ad (0 + 29)), .ref (ad (0 + 57)), .int (q2 1 3 2 0 0), .ref (ad (0 + 85)), .ref (ad (0 + 199)), .ref (ad (0 + 202))]))], (w_X5 ad (0 + 1) cs (q2 1 0)), (w_X5 ad (0 + 29) cs (q2 1 1)), (w_X5 ad (0 + 57) cs (q2 1 2)), (w_X3 ad (0 + 85) cs (q2 0)), (w_X2 ad (0 + 199) cs (q2 1 3 0)), (w_X7 ad (0 + 202) cs en (q2 1 3 1))]) (L' := [[((ad 0), .inr (8, [.ref (ad (0 + 1)), .ref (ad (0 + 29)), .ref (ad (0 + 57)), .int ((sU q2 1 (sU (q2 1) 1 q7.2)) 1 3 2 0 0), .ref (ad (0 + 85)), .ref (ad (0 + 199)), .ref (ad (0 + 202))]))], (w_X5 ad (0 + 1) cs ((sU q2 1 (sU (q2 1) 1 q7.2)) 1 0)), (w_X5 ad (0 + 29) cs ((sU q2 1 (sU (q2 1) 1 q7.2)) 1 1)), (w_X5 ad (0 + 57) cs ((sU q2 1 (sU (q2 1) 1 q7.2)) 1 2)), (w_X3 ad (0 + 85) cs ((sU q2 1 (sU (q2 1) 1 q7.2)) 0)), (w_X2 ad (0 + 199) cs ((sU q2 1 (sU (q2 1) 1 q7.2)) 1 3 0)), (w_X7 ad (0 + 202) cs en ((sU q2 1 (sU (q2 1) 1 q7.2)) 1 3 1))]) (Wc := [(w_X5 ad (0 + 29) cs (q2 1 1))]) (Wc' := [(w_X5 ad (0 + 29) cs q7.2)]) (is := [2]) (js := [0, 1, 3, 4, 5, 6]) ⟨hx, hb, hml, hown, hts⟩ (k_X5_unload l dC dI cs ad (0 + 29) H2.size (q2 1 1) p1 p2 q7.1 q7.2 gq7) (cwV 2 hts gX10_put_X5_unload rfl rfl rfl cd_X5_unload ⟨Nat.le_of_ble_eq_true rfl, Nat.le_of_ble_eq_true rfl⟩) hK hP hD hS hA ⟨rfl, rfl, rfl, rfl, rfl, rfl⟩ (jn_nd (is := [2]) hD rfl rfl) 29 4 rfl rfl rfl rfl rfl hl.1 (Nat.le_of_ble_eq_true rfl) dX10_put_7 (fun H7 locs7 hP' hD' hS' => ?_)
  replace hS := hS'
  have hP' : va_P (dC, dI) vwCl (fl [(w_X10 ad (0) cs en (sU q2 1 (sU (q2 1) 1 q7.2)))]) H7 := hP'
  have hD' : va_D A (fl [(w_X10 ad (0) cs en (sU q2 1 (sU (q2 1) 1 q7.2)))]) := hD'
  replace hR := bn_e hR
  obtain ⟨S1_7, eS1_7, hR⟩ := hR
  replace hP : va_P (dC, dI) vwCl (fl [(w_X10 ad (0) cs en S1_7)]) H7 := by rw [eS1_7]; exact hP'
  replace hD : va_D A (fl [(w_X10 ad (0) cs en S1_7)]) := by rw [eS1_7]; exact hD'
  clear hP' hD' hS'
  replace hR := bd_e hR
  obtain ⟨q10, gq10, hR⟩ := hR
  refine cl_Vi (As := [.int q7.1]) (rest := []) (L := [(w_X10 ad (0) cs en S1_7)]) (L' := [(w_X10 ad (0) cs en q10.2)]) (Wc := [(w_X10 ad (0) cs en S1_7)]) (Wc' := [(w_X10 ad (0) cs en q10.2)]) (is := [0]) (js := []) ⟨hx, hb, hml, hown, hts⟩ (k_X10_settle l dC dI cs ad en H7.size S1_7 q7.1 q10.1 q10.2 gq10) (cwV 1 hts gX10_put_X10_settle rfl rfl rfl cd_X10_settle ⟨Nat.le_of_ble_eq_true rfl, Nat.le_of_ble_eq_true rfl⟩) hK hP hD hS hA ⟨rfl, rfl, rfl, rfl, rfl, rfl⟩ (jn_nd (is := [0]) hD rfl rfl) 0 8 rfl rfl rfl rfl rfl hl.1 (Nat.le_of_ble_eq_true rfl) dX10_put_10 (fun H10 locs10 hP' hD' hS' => ?_)
  replace hS := hS'
  replace hP : va_P (dC, dI) vwCl (fl [(w_X10 ad (0) cs en q10.2)]) H10 := hP'
  replace hD : va_D A (fl [(w_X10 ad (0) cs en q10.2)]) := hD'
  clear hP' hD' hS'
  replace hR := Option.some.inj hR
  obtain ⟨e9, hR⟩ := Prod.mk.inj hR
  have eu1 := hR
  replace hP : va_P (dC, dI) vwCl (fl [(w_X10 ad (0) cs en u1)]) H10 := by rw [← eu1]; exact hP
  replace hD : va_D A (fl [(w_X10 ad (0) cs en u1)]) := by rw [← eu1]; exact hD
  exact W.iret hx hb hr (fun t ht hW => ⟨⟨_, (), rfl, e9, by rw [ht]; exact hP, va_K.moved hW.alike hK, hD⟩, hS.F ht⟩) hS.2.2 dX10_put_13
set_option maxHeartbeats 8000000 in
set_option maxRecDepth 100000 in
theorem k_X10_go (l : Launch) (dC : Nat → ClassId) (dI : Nat → Nat → Nat) (cs : Nat → ClassId) (ad : Nat → Nat) (en : Nat → Nat) (sz : Nat) (S1 : T5) (p1 : Int32) (p2 : Int32) (r : Int32) (u1 : T5) (hR : fX10_go S1 p1 p2 = some (r, u1)) : Met l yX10_go wsX10_go ({ frames := 5, cells := 0, slots := 0, locals := 115 } : Room) (va_Pc [.ref (ad 0), .int p1, .int p2] (pW dC dI (tyL cs) (fl [(w_X10 ad (0) cs en S1)]) sz)) (QI dC dI (tyL cs) (va_A (fl [(w_X10 ad (0) cs en S1)]) sz) (fl [(w_X10 ad (0) cs en u1)]) r) 0 0 (va_A (fl [(w_X10 ad (0) cs en S1)]) sz) := by
  refine mt_of (own := RX10) (cc := cX10_go) (maxL := 3) (ret := (some .int)) (Qc := fun A => QI dC dI (tyL cs) A (fl [(w_X10 ad (0) cs en u1)]) r) rfl (by decide) rfl (Nat.le_of_ble_eq_true rfl) (fun p e s m below meth c A ls hsz hx hb hr hts hown hlocks hml hA hK hP hD hS hl => ?_)
  subst hsz
  have hl : lv_has ls 3 [(0, .ref (ad 0)), (1, .int p1), (2, .int p2)] := hl
  refine lv_aload_n hx hb dX10_go_0 rfl (lv_at hl 0 rfl) ?_
  refine lv_aload_n hx hb dX10_go_1 rfl (lv_at hl 0 rfl) ?_
  replace hR := bd_e hR
  obtain ⟨q2, gq2, hR⟩ := hR
  refine cl_Va (As := []) (rest := [.ref (ad 0)]) (L := [(w_X10 ad (0) cs en S1)]) (L' := [(w_X10 ad (0) cs en q2)]) (Wc := [(w_X10 ad (0) cs en S1)]) (Wc' := [(w_X10 ad (0) cs en q2)]) (is := [0]) (js := []) ⟨hx, hb, hml, hown, hts⟩ (k_X10_freshDraft l dC dI cs ad en s.heap.size S1 q2 gq2) (cwV 0 hts gX10_go_X10_freshDraft rfl rfl rfl cd_X10_freshDraft ⟨Nat.le_of_ble_eq_true rfl, Nat.le_of_ble_eq_true rfl⟩) hK hP hD hS hA ⟨rfl, rfl, rfl, rfl, rfl, rfl⟩ (jn_nd (is := [0]) hD rfl rfl) 0 8 rfl rfl rfl rfl rfl hl.1 (Nat.le_of_ble_eq_true rfl) dX10_go_2 (fun H2 locs2 hP' hD' hS' => ?_)
  replace hS := hS'
  replace hP : va_P (dC, dI) vwCl (fl [(w_X10 ad (0) cs en q2)]) H2 := hP'
  replace hD : va_D A (fl [(w_X10 ad (0) cs en q2)]) := hD'
  clear hP' hD' hS'
  refine lv_iload_n hx hb dX10_go_5 rfl (lv_at hl 1 rfl) ?_
  refine lv_iload_n hx hb dX10_go_6 rfl (lv_at hl 2 rfl) ?_
  replace hR := bd_e hR
  obtain ⟨q7, gq7, hR⟩ := hR
  replace hP : va_P (dC, dI) vwCl (fl [[((ad 0), .inr (8, [.ref (ad (0 + 1)), .ref (ad (0 + 29)), .ref (ad (0 + 57)), .int (q2 1 3 2 0 0), .ref (ad (0 + 85)), .ref (ad (0 + 199)), .ref (ad (0 + 202))]))], (w_X5 ad (0 + 1) cs (q2 1 0)), (w_X5 ad (0 + 29) cs (q2 1 1)), (w_X5 ad (0 + 57) cs (q2 1 2)), (w_X3 ad (0 + 85) cs (q2 0)), (w_X2 ad (0 + 199) cs (q2 1 3 0)), (w_X7 ad (0 + 202) cs en (q2 1 3 1))]) H2 := hP
  replace hD : va_D A (fl [[((ad 0), .inr (8, [.ref (ad (0 + 1)), .ref (ad (0 + 29)), .ref (ad (0 + 57)), .int (q2 1 3 2 0 0), .ref (ad (0 + 85)), .ref (ad (0 + 199)), .ref (ad (0 + 202))]))], (w_X5 ad (0 + 1) cs (q2 1 0)), (w_X5 ad (0 + 29) cs (q2 1 1)), (w_X5 ad (0 + 57) cs (q2 1 2)), (w_X3 ad (0 + 85) cs (q2 0)), (w_X2 ad (0 + 199) cs (q2 1 3 0)), (w_X7 ad (0 + 202) cs en (q2 1 3 1))]) := hD
  refine cl_Vi (As := [.int p1, .int p2]) (rest := [.ref (ad 0)]) (L := [[((ad 0), .inr (8, [.ref (ad (0 + 1)), .ref (ad (0 + 29)), .ref (ad (0 + 57)), .int (q2 1 3 2 0 0), .ref (ad (0 + 85)), .ref (ad (0 + 199)), .ref (ad (0 + 202))]))], (w_X5 ad (0 + 1) cs (q2 1 0)), (w_X5 ad (0 + 29) cs (q2 1 1)), (w_X5 ad (0 + 57) cs (q2 1 2)), (w_X3 ad (0 + 85) cs (q2 0)), (w_X2 ad (0 + 199) cs (q2 1 3 0)), (w_X7 ad (0 + 202) cs en (q2 1 3 1))]) (L' := [[((ad 0), .inr (8, [.ref (ad (0 + 1)), .ref (ad (0 + 29)), .ref (ad (0 + 57)), .int ((sU q2 1 (sU (q2 1) 1 q7.2)) 1 3 2 0 0), .ref (ad (0 + 85)), .ref (ad (0 + 199)), .ref (ad (0 + 202))]))], (w_X5 ad (0 + 1) cs ((sU q2 1 (sU (q2 1) 1 q7.2)) 1 0)), (w_X5 ad (0 + 29) cs ((sU q2 1 (sU (q2 1) 1 q7.2)) 1 1)), (w_X5 ad (0 + 57) cs ((sU q2 1 (sU (q2 1) 1 q7.2)) 1 2)), (w_X3 ad (0 + 85) cs ((sU q2 1 (sU (q2 1) 1 q7.2)) 0)), (w_X2 ad (0 + 199) cs ((sU q2 1 (sU (q2 1) 1 q7.2)) 1 3 0)), (w_X7 ad (0 + 202) cs en ((sU q2 1 (sU (q2 1) 1 q7.2)) 1 3 1))]) (Wc := [(w_X5 ad (0 + 29) cs (q2 1 1))]) (Wc' := [(w_X5 ad (0 + 29) cs q7.2)]) (is := [2]) (js := [0, 1, 3, 4, 5, 6]) ⟨hx, hb, hml, hown, hts⟩ (k_X5_sendVan l dC dI cs ad (0 + 29) H2.size (q2 1 1) p1 p2 q7.1 q7.2 gq7) (cwV 2 hts gX10_go_X5_sendVan rfl rfl rfl cd_X5_sendVan ⟨Nat.le_of_ble_eq_true rfl, Nat.le_of_ble_eq_true rfl⟩) hK hP hD hS hA ⟨rfl, rfl, rfl, rfl, rfl, rfl⟩ (jn_nd (is := [2]) hD rfl rfl) 29 4 rfl rfl rfl rfl rfl hl.1 (Nat.le_of_ble_eq_true rfl) dX10_go_7 (fun H7 locs7 hP' hD' hS' => ?_)
  replace hS := hS'
  have hP' : va_P (dC, dI) vwCl (fl [(w_X10 ad (0) cs en (sU q2 1 (sU (q2 1) 1 q7.2)))]) H7 := hP'
  have hD' : va_D A (fl [(w_X10 ad (0) cs en (sU q2 1 (sU (q2 1) 1 q7.2)))]) := hD'
  replace hR := bn_e hR
  obtain ⟨S1_7, eS1_7, hR⟩ := hR
  replace hP : va_P (dC, dI) vwCl (fl [(w_X10 ad (0) cs en S1_7)]) H7 := by rw [eS1_7]; exact hP'
  replace hD : va_D A (fl [(w_X10 ad (0) cs en S1_7)]) := by rw [eS1_7]; exact hD'
  clear hP' hD' hS'
  replace hR := bd_e hR
  obtain ⟨q10, gq10, hR⟩ := hR
  refine cl_Vi (As := [.int q7.1]) (rest := []) (L := [(w_X10 ad (0) cs en S1_7)]) (L' := [(w_X10 ad (0) cs en q10.2)]) (Wc := [(w_X10 ad (0) cs en S1_7)]) (Wc' := [(w_X10 ad (0) cs en q10.2)]) (is := [0]) (js := []) ⟨hx, hb, hml, hown, hts⟩ (k_X10_settle l dC dI cs ad en H7.size S1_7 q7.1 q10.1 q10.2 gq10) (cwV 1 hts gX10_go_X10_settle rfl rfl rfl cd_X10_settle ⟨Nat.le_of_ble_eq_true rfl, Nat.le_of_ble_eq_true rfl⟩) hK hP hD hS hA ⟨rfl, rfl, rfl, rfl, rfl, rfl⟩ (jn_nd (is := [0]) hD rfl rfl) 0 8 rfl rfl rfl rfl rfl hl.1 (Nat.le_of_ble_eq_true rfl) dX10_go_10 (fun H10 locs10 hP' hD' hS' => ?_)
  replace hS := hS'
  replace hP : va_P (dC, dI) vwCl (fl [(w_X10 ad (0) cs en q10.2)]) H10 := hP'
  replace hD : va_D A (fl [(w_X10 ad (0) cs en q10.2)]) := hD'
  clear hP' hD' hS'
  replace hR := Option.some.inj hR
  obtain ⟨e9, hR⟩ := Prod.mk.inj hR
  have eu1 := hR
  replace hP : va_P (dC, dI) vwCl (fl [(w_X10 ad (0) cs en u1)]) H10 := by rw [← eu1]; exact hP
  replace hD : va_D A (fl [(w_X10 ad (0) cs en u1)]) := by rw [← eu1]; exact hD
  exact W.iret hx hb hr (fun t ht hW => ⟨⟨_, (), rfl, e9, by rw [ht]; exact hP, va_K.moved hW.alike hK, hD⟩, hS.F ht⟩) hS.2.2 dX10_go_13
set_option maxHeartbeats 8000000 in
set_option maxRecDepth 100000 in
theorem k_X10_mend (l : Launch) (dC : Nat → ClassId) (dI : Nat → Nat → Nat) (cs : Nat → ClassId) (ad : Nat → Nat) (en : Nat → Nat) (sz : Nat) (S1 : T5) (p1 : Int32) (p2 : Int32) (r : Int32) (u1 : T5) (hR : fX10_mend S1 p1 p2 = some (r, u1)) : Met l yX10_mend wsX10_mend ({ frames := 5, cells := 0, slots := 0, locals := 115 } : Room) (va_Pc [.ref (ad 0), .int p1, .int p2] (pW dC dI (tyL cs) (fl [(w_X10 ad (0) cs en S1)]) sz)) (QI dC dI (tyL cs) (va_A (fl [(w_X10 ad (0) cs en S1)]) sz) (fl [(w_X10 ad (0) cs en u1)]) r) 0 0 (va_A (fl [(w_X10 ad (0) cs en S1)]) sz) := by
  refine mt_of (own := RX10) (cc := cX10_mend) (maxL := 3) (ret := (some .int)) (Qc := fun A => QI dC dI (tyL cs) A (fl [(w_X10 ad (0) cs en u1)]) r) rfl (by decide) rfl (Nat.le_of_ble_eq_true rfl) (fun p e s m below meth c A ls hsz hx hb hr hts hown hlocks hml hA hK hP hD hS hl => ?_)
  subst hsz
  have hl : lv_has ls 3 [(0, .ref (ad 0)), (1, .int p1), (2, .int p2)] := hl
  refine lv_aload_n hx hb dX10_mend_0 rfl (lv_at hl 0 rfl) ?_
  refine lv_aload_n hx hb dX10_mend_1 rfl (lv_at hl 0 rfl) ?_
  replace hR := bd_e hR
  obtain ⟨q2, gq2, hR⟩ := hR
  refine cl_Va (As := []) (rest := [.ref (ad 0)]) (L := [(w_X10 ad (0) cs en S1)]) (L' := [(w_X10 ad (0) cs en q2)]) (Wc := [(w_X10 ad (0) cs en S1)]) (Wc' := [(w_X10 ad (0) cs en q2)]) (is := [0]) (js := []) ⟨hx, hb, hml, hown, hts⟩ (k_X10_freshDraft l dC dI cs ad en s.heap.size S1 q2 gq2) (cwV 0 hts gX10_mend_X10_freshDraft rfl rfl rfl cd_X10_freshDraft ⟨Nat.le_of_ble_eq_true rfl, Nat.le_of_ble_eq_true rfl⟩) hK hP hD hS hA ⟨rfl, rfl, rfl, rfl, rfl, rfl⟩ (jn_nd (is := [0]) hD rfl rfl) 0 8 rfl rfl rfl rfl rfl hl.1 (Nat.le_of_ble_eq_true rfl) dX10_mend_2 (fun H2 locs2 hP' hD' hS' => ?_)
  replace hS := hS'
  replace hP : va_P (dC, dI) vwCl (fl [(w_X10 ad (0) cs en q2)]) H2 := hP'
  replace hD : va_D A (fl [(w_X10 ad (0) cs en q2)]) := hD'
  clear hP' hD' hS'
  refine lv_iload_n hx hb dX10_mend_5 rfl (lv_at hl 1 rfl) ?_
  refine lv_iload_n hx hb dX10_mend_6 rfl (lv_at hl 2 rfl) ?_
  replace hR := bd_e hR
  obtain ⟨q7, gq7, hR⟩ := hR
  replace hP : va_P (dC, dI) vwCl (fl [[((ad 0), .inr (8, [.ref (ad (0 + 1)), .ref (ad (0 + 29)), .ref (ad (0 + 57)), .int (q2 1 3 2 0 0), .ref (ad (0 + 85)), .ref (ad (0 + 199)), .ref (ad (0 + 202))]))], (w_X5 ad (0 + 1) cs (q2 1 0)), (w_X5 ad (0 + 29) cs (q2 1 1)), (w_X5 ad (0 + 57) cs (q2 1 2)), (w_X3 ad (0 + 85) cs (q2 0)), (w_X2 ad (0 + 199) cs (q2 1 3 0)), (w_X7 ad (0 + 202) cs en (q2 1 3 1))]) H2 := hP
  replace hD : va_D A (fl [[((ad 0), .inr (8, [.ref (ad (0 + 1)), .ref (ad (0 + 29)), .ref (ad (0 + 57)), .int (q2 1 3 2 0 0), .ref (ad (0 + 85)), .ref (ad (0 + 199)), .ref (ad (0 + 202))]))], (w_X5 ad (0 + 1) cs (q2 1 0)), (w_X5 ad (0 + 29) cs (q2 1 1)), (w_X5 ad (0 + 57) cs (q2 1 2)), (w_X3 ad (0 + 85) cs (q2 0)), (w_X2 ad (0 + 199) cs (q2 1 3 0)), (w_X7 ad (0 + 202) cs en (q2 1 3 1))]) := hD
  refine cl_Vi (As := [.int p1, .int p2]) (rest := [.ref (ad 0)]) (L := [[((ad 0), .inr (8, [.ref (ad (0 + 1)), .ref (ad (0 + 29)), .ref (ad (0 + 57)), .int (q2 1 3 2 0 0), .ref (ad (0 + 85)), .ref (ad (0 + 199)), .ref (ad (0 + 202))]))], (w_X5 ad (0 + 1) cs (q2 1 0)), (w_X5 ad (0 + 29) cs (q2 1 1)), (w_X5 ad (0 + 57) cs (q2 1 2)), (w_X3 ad (0 + 85) cs (q2 0)), (w_X2 ad (0 + 199) cs (q2 1 3 0)), (w_X7 ad (0 + 202) cs en (q2 1 3 1))]) (L' := [[((ad 0), .inr (8, [.ref (ad (0 + 1)), .ref (ad (0 + 29)), .ref (ad (0 + 57)), .int ((sU q2 1 (sU (q2 1) 1 q7.2)) 1 3 2 0 0), .ref (ad (0 + 85)), .ref (ad (0 + 199)), .ref (ad (0 + 202))]))], (w_X5 ad (0 + 1) cs ((sU q2 1 (sU (q2 1) 1 q7.2)) 1 0)), (w_X5 ad (0 + 29) cs ((sU q2 1 (sU (q2 1) 1 q7.2)) 1 1)), (w_X5 ad (0 + 57) cs ((sU q2 1 (sU (q2 1) 1 q7.2)) 1 2)), (w_X3 ad (0 + 85) cs ((sU q2 1 (sU (q2 1) 1 q7.2)) 0)), (w_X2 ad (0 + 199) cs ((sU q2 1 (sU (q2 1) 1 q7.2)) 1 3 0)), (w_X7 ad (0 + 202) cs en ((sU q2 1 (sU (q2 1) 1 q7.2)) 1 3 1))]) (Wc := [(w_X5 ad (0 + 29) cs (q2 1 1))]) (Wc' := [(w_X5 ad (0 + 29) cs q7.2)]) (is := [2]) (js := [0, 1, 3, 4, 5, 6]) ⟨hx, hb, hml, hown, hts⟩ (k_X5_handOver l dC dI cs ad (0 + 29) H2.size (q2 1 1) p1 p2 q7.1 q7.2 gq7) (cwV 2 hts gX10_mend_X5_handOver rfl rfl rfl cd_X5_handOver ⟨Nat.le_of_ble_eq_true rfl, Nat.le_of_ble_eq_true rfl⟩) hK hP hD hS hA ⟨rfl, rfl, rfl, rfl, rfl, rfl⟩ (jn_nd (is := [2]) hD rfl rfl) 29 4 rfl rfl rfl rfl rfl hl.1 (Nat.le_of_ble_eq_true rfl) dX10_mend_7 (fun H7 locs7 hP' hD' hS' => ?_)
  replace hS := hS'
  have hP' : va_P (dC, dI) vwCl (fl [(w_X10 ad (0) cs en (sU q2 1 (sU (q2 1) 1 q7.2)))]) H7 := hP'
  have hD' : va_D A (fl [(w_X10 ad (0) cs en (sU q2 1 (sU (q2 1) 1 q7.2)))]) := hD'
  replace hR := bn_e hR
  obtain ⟨S1_7, eS1_7, hR⟩ := hR
  replace hP : va_P (dC, dI) vwCl (fl [(w_X10 ad (0) cs en S1_7)]) H7 := by rw [eS1_7]; exact hP'
  replace hD : va_D A (fl [(w_X10 ad (0) cs en S1_7)]) := by rw [eS1_7]; exact hD'
  clear hP' hD' hS'
  replace hR := bd_e hR
  obtain ⟨q10, gq10, hR⟩ := hR
  refine cl_Vi (As := [.int q7.1]) (rest := []) (L := [(w_X10 ad (0) cs en S1_7)]) (L' := [(w_X10 ad (0) cs en q10.2)]) (Wc := [(w_X10 ad (0) cs en S1_7)]) (Wc' := [(w_X10 ad (0) cs en q10.2)]) (is := [0]) (js := []) ⟨hx, hb, hml, hown, hts⟩ (k_X10_settle l dC dI cs ad en H7.size S1_7 q7.1 q10.1 q10.2 gq10) (cwV 1 hts gX10_mend_X10_settle rfl rfl rfl cd_X10_settle ⟨Nat.le_of_ble_eq_true rfl, Nat.le_of_ble_eq_true rfl⟩) hK hP hD hS hA ⟨rfl, rfl, rfl, rfl, rfl, rfl⟩ (jn_nd (is := [0]) hD rfl rfl) 0 8 rfl rfl rfl rfl rfl hl.1 (Nat.le_of_ble_eq_true rfl) dX10_mend_10 (fun H10 locs10 hP' hD' hS' => ?_)
  replace hS := hS'
  replace hP : va_P (dC, dI) vwCl (fl [(w_X10 ad (0) cs en q10.2)]) H10 := hP'
  replace hD : va_D A (fl [(w_X10 ad (0) cs en q10.2)]) := hD'
  clear hP' hD' hS'
  replace hR := Option.some.inj hR
  obtain ⟨e9, hR⟩ := Prod.mk.inj hR
  have eu1 := hR
  replace hP : va_P (dC, dI) vwCl (fl [(w_X10 ad (0) cs en u1)]) H10 := by rw [← eu1]; exact hP
  replace hD : va_D A (fl [(w_X10 ad (0) cs en u1)]) := by rw [← eu1]; exact hD
  exact W.iret hx hb hr (fun t ht hW => ⟨⟨_, (), rfl, e9, by rw [ht]; exact hP, va_K.moved hW.alike hK, hD⟩, hS.F ht⟩) hS.2.2 dX10_mend_13
set_option maxHeartbeats 8000000 in
set_option maxRecDepth 100000 in
theorem k_X10_pause (l : Launch) (dC : Nat → ClassId) (dI : Nat → Nat → Nat) (cs : Nat → ClassId) (ad : Nat → Nat) (en : Nat → Nat) (sz : Nat) (S1 : T5) (p1 : Int32) (r : Int32) (u1 : T5) (hR : fX10_pause S1 p1 = some (r, u1)) : Met l yX10_pause wsX10_pause ({ frames := 5, cells := 0, slots := 0, locals := 115 } : Room) (va_Pc [.ref (ad 0), .int p1] (pW dC dI (tyL cs) (fl [(w_X10 ad (0) cs en S1)]) sz)) (QI dC dI (tyL cs) (va_A (fl [(w_X10 ad (0) cs en S1)]) sz) (fl [(w_X10 ad (0) cs en u1)]) r) 0 0 (va_A (fl [(w_X10 ad (0) cs en S1)]) sz) := by
  refine mt_of (own := RX10) (cc := cX10_pause) (maxL := 2) (ret := (some .int)) (Qc := fun A => QI dC dI (tyL cs) A (fl [(w_X10 ad (0) cs en u1)]) r) rfl (by decide) rfl (Nat.le_of_ble_eq_true rfl) (fun p e s m below meth c A ls hsz hx hb hr hts hown hlocks hml hA hK hP hD hS hl => ?_)
  subst hsz
  have hl : lv_has ls 2 [(0, .ref (ad 0)), (1, .int p1)] := hl
  refine lv_aload_n hx hb dX10_pause_0 rfl (lv_at hl 0 rfl) ?_
  refine lv_aload_n hx hb dX10_pause_1 rfl (lv_at hl 0 rfl) ?_
  replace hR := bd_e hR
  obtain ⟨q2, gq2, hR⟩ := hR
  refine cl_Va (As := []) (rest := [.ref (ad 0)]) (L := [(w_X10 ad (0) cs en S1)]) (L' := [(w_X10 ad (0) cs en q2)]) (Wc := [(w_X10 ad (0) cs en S1)]) (Wc' := [(w_X10 ad (0) cs en q2)]) (is := [0]) (js := []) ⟨hx, hb, hml, hown, hts⟩ (k_X10_freshDraft l dC dI cs ad en s.heap.size S1 q2 gq2) (cwV 0 hts gX10_pause_X10_freshDraft rfl rfl rfl cd_X10_freshDraft ⟨Nat.le_of_ble_eq_true rfl, Nat.le_of_ble_eq_true rfl⟩) hK hP hD hS hA ⟨rfl, rfl, rfl, rfl, rfl, rfl⟩ (jn_nd (is := [0]) hD rfl rfl) 0 8 rfl rfl rfl rfl rfl hl.1 (Nat.le_of_ble_eq_true rfl) dX10_pause_2 (fun H2 locs2 hP' hD' hS' => ?_)
  replace hS := hS'
  replace hP : va_P (dC, dI) vwCl (fl [(w_X10 ad (0) cs en q2)]) H2 := hP'
  replace hD : va_D A (fl [(w_X10 ad (0) cs en q2)]) := hD'
  clear hP' hD' hS'
  refine lv_iload_n hx hb dX10_pause_5 rfl (lv_at hl 1 rfl) ?_
  replace hR := bd_e hR
  obtain ⟨q6, gq6, hR⟩ := hR
  replace hP : va_P (dC, dI) vwCl (fl [[((ad 0), .inr (8, [.ref (ad (0 + 1)), .ref (ad (0 + 29)), .ref (ad (0 + 57)), .int (q2 1 3 2 0 0), .ref (ad (0 + 85)), .ref (ad (0 + 199)), .ref (ad (0 + 202))]))], (w_X5 ad (0 + 1) cs (q2 1 0)), (w_X5 ad (0 + 29) cs (q2 1 1)), (w_X5 ad (0 + 57) cs (q2 1 2)), (w_X3 ad (0 + 85) cs (q2 0)), (w_X2 ad (0 + 199) cs (q2 1 3 0)), (w_X7 ad (0 + 202) cs en (q2 1 3 1))]) H2 := hP
  replace hD : va_D A (fl [[((ad 0), .inr (8, [.ref (ad (0 + 1)), .ref (ad (0 + 29)), .ref (ad (0 + 57)), .int (q2 1 3 2 0 0), .ref (ad (0 + 85)), .ref (ad (0 + 199)), .ref (ad (0 + 202))]))], (w_X5 ad (0 + 1) cs (q2 1 0)), (w_X5 ad (0 + 29) cs (q2 1 1)), (w_X5 ad (0 + 57) cs (q2 1 2)), (w_X3 ad (0 + 85) cs (q2 0)), (w_X2 ad (0 + 199) cs (q2 1 3 0)), (w_X7 ad (0 + 202) cs en (q2 1 3 1))]) := hD
  refine cl_Vi (As := [.int p1]) (rest := [.ref (ad 0)]) (L := [[((ad 0), .inr (8, [.ref (ad (0 + 1)), .ref (ad (0 + 29)), .ref (ad (0 + 57)), .int (q2 1 3 2 0 0), .ref (ad (0 + 85)), .ref (ad (0 + 199)), .ref (ad (0 + 202))]))], (w_X5 ad (0 + 1) cs (q2 1 0)), (w_X5 ad (0 + 29) cs (q2 1 1)), (w_X5 ad (0 + 57) cs (q2 1 2)), (w_X3 ad (0 + 85) cs (q2 0)), (w_X2 ad (0 + 199) cs (q2 1 3 0)), (w_X7 ad (0 + 202) cs en (q2 1 3 1))]) (L' := [[((ad 0), .inr (8, [.ref (ad (0 + 1)), .ref (ad (0 + 29)), .ref (ad (0 + 57)), .int ((sU q2 1 (sU (q2 1) 1 q6.2)) 1 3 2 0 0), .ref (ad (0 + 85)), .ref (ad (0 + 199)), .ref (ad (0 + 202))]))], (w_X5 ad (0 + 1) cs ((sU q2 1 (sU (q2 1) 1 q6.2)) 1 0)), (w_X5 ad (0 + 29) cs ((sU q2 1 (sU (q2 1) 1 q6.2)) 1 1)), (w_X5 ad (0 + 57) cs ((sU q2 1 (sU (q2 1) 1 q6.2)) 1 2)), (w_X3 ad (0 + 85) cs ((sU q2 1 (sU (q2 1) 1 q6.2)) 0)), (w_X2 ad (0 + 199) cs ((sU q2 1 (sU (q2 1) 1 q6.2)) 1 3 0)), (w_X7 ad (0 + 202) cs en ((sU q2 1 (sU (q2 1) 1 q6.2)) 1 3 1))]) (Wc := [(w_X5 ad (0 + 29) cs (q2 1 1))]) (Wc' := [(w_X5 ad (0 + 29) cs q6.2)]) (is := [2]) (js := [0, 1, 3, 4, 5, 6]) ⟨hx, hb, hml, hown, hts⟩ (k_X5_letGoBy l dC dI cs ad (0 + 29) H2.size (q2 1 1) p1 q6.1 q6.2 gq6) (cwV 1 hts gX10_pause_X5_letGoBy rfl rfl rfl cd_X5_letGoBy ⟨Nat.le_of_ble_eq_true rfl, Nat.le_of_ble_eq_true rfl⟩) hK hP hD hS hA ⟨rfl, rfl, rfl, rfl, rfl, rfl⟩ (jn_nd (is := [2]) hD rfl rfl) 29 4 rfl rfl rfl rfl rfl hl.1 (Nat.le_of_ble_eq_true rfl) dX10_pause_6 (fun H6 locs6 hP' hD' hS' => ?_)
  replace hS := hS'
  have hP' : va_P (dC, dI) vwCl (fl [(w_X10 ad (0) cs en (sU q2 1 (sU (q2 1) 1 q6.2)))]) H6 := hP'
  have hD' : va_D A (fl [(w_X10 ad (0) cs en (sU q2 1 (sU (q2 1) 1 q6.2)))]) := hD'
  replace hR := bn_e hR
  obtain ⟨S1_6, eS1_6, hR⟩ := hR
  replace hP : va_P (dC, dI) vwCl (fl [(w_X10 ad (0) cs en S1_6)]) H6 := by rw [eS1_6]; exact hP'
  replace hD : va_D A (fl [(w_X10 ad (0) cs en S1_6)]) := by rw [eS1_6]; exact hD'
  clear hP' hD' hS'
  replace hR := bd_e hR
  obtain ⟨q9, gq9, hR⟩ := hR
  refine cl_Vi (As := [.int q6.1]) (rest := []) (L := [(w_X10 ad (0) cs en S1_6)]) (L' := [(w_X10 ad (0) cs en q9.2)]) (Wc := [(w_X10 ad (0) cs en S1_6)]) (Wc' := [(w_X10 ad (0) cs en q9.2)]) (is := [0]) (js := []) ⟨hx, hb, hml, hown, hts⟩ (k_X10_settle l dC dI cs ad en H6.size S1_6 q6.1 q9.1 q9.2 gq9) (cwV 1 hts gX10_pause_X10_settle rfl rfl rfl cd_X10_settle ⟨Nat.le_of_ble_eq_true rfl, Nat.le_of_ble_eq_true rfl⟩) hK hP hD hS hA ⟨rfl, rfl, rfl, rfl, rfl, rfl⟩ (jn_nd (is := [0]) hD rfl rfl) 0 8 rfl rfl rfl rfl rfl hl.1 (Nat.le_of_ble_eq_true rfl) dX10_pause_9 (fun H9 locs9 hP' hD' hS' => ?_)
  replace hS := hS'
  replace hP : va_P (dC, dI) vwCl (fl [(w_X10 ad (0) cs en q9.2)]) H9 := hP'
  replace hD : va_D A (fl [(w_X10 ad (0) cs en q9.2)]) := hD'
  clear hP' hD' hS'
  replace hR := Option.some.inj hR
  obtain ⟨e9, hR⟩ := Prod.mk.inj hR
  have eu1 := hR
  replace hP : va_P (dC, dI) vwCl (fl [(w_X10 ad (0) cs en u1)]) H9 := by rw [← eu1]; exact hP
  replace hD : va_D A (fl [(w_X10 ad (0) cs en u1)]) := by rw [← eu1]; exact hD
  exact W.iret hx hb hr (fun t ht hW => ⟨⟨_, (), rfl, e9, by rw [ht]; exact hP, va_K.moved hW.alike hK, hD⟩, hS.F ht⟩) hS.2.2 dX10_pause_12
set_option maxHeartbeats 8000000 in
set_option maxRecDepth 100000 in
theorem k_X10_set (l : Launch) (dC : Nat → ClassId) (dI : Nat → Nat → Nat) (cs : Nat → ClassId) (ad : Nat → Nat) (en : Nat → Nat) (sz : Nat) (S1 : T5) (p1 : Int32) (p2 : Int32) (r : Int32) (u1 : T5) (hR : fX10_set S1 p1 p2 = some (r, u1)) : Met l yX10_set wsX10_set ({ frames := 5, cells := 0, slots := 0, locals := 115 } : Room) (va_Pc [.ref (ad 0), .int p1, .int p2] (pW dC dI (tyL cs) (fl [(w_X10 ad (0) cs en S1)]) sz)) (QI dC dI (tyL cs) (va_A (fl [(w_X10 ad (0) cs en S1)]) sz) (fl [(w_X10 ad (0) cs en u1)]) r) 0 0 (va_A (fl [(w_X10 ad (0) cs en S1)]) sz) := by
  refine mt_of (own := RX10) (cc := cX10_set) (maxL := 3) (ret := (some .int)) (Qc := fun A => QI dC dI (tyL cs) A (fl [(w_X10 ad (0) cs en u1)]) r) rfl (by decide) rfl (Nat.le_of_ble_eq_true rfl) (fun p e s m below meth c A ls hsz hx hb hr hts hown hlocks hml hA hK hP hD hS hl => ?_)
  subst hsz
  have hl : lv_has ls 3 [(0, .ref (ad 0)), (1, .int p1), (2, .int p2)] := hl
  refine lv_aload_n hx hb dX10_set_0 rfl (lv_at hl 0 rfl) ?_
  refine lv_aload_n hx hb dX10_set_1 rfl (lv_at hl 0 rfl) ?_
  replace hR := bd_e hR
  obtain ⟨q2, gq2, hR⟩ := hR
  refine cl_Va (As := []) (rest := [.ref (ad 0)]) (L := [(w_X10 ad (0) cs en S1)]) (L' := [(w_X10 ad (0) cs en q2)]) (Wc := [(w_X10 ad (0) cs en S1)]) (Wc' := [(w_X10 ad (0) cs en q2)]) (is := [0]) (js := []) ⟨hx, hb, hml, hown, hts⟩ (k_X10_freshDraft l dC dI cs ad en s.heap.size S1 q2 gq2) (cwV 0 hts gX10_set_X10_freshDraft rfl rfl rfl cd_X10_freshDraft ⟨Nat.le_of_ble_eq_true rfl, Nat.le_of_ble_eq_true rfl⟩) hK hP hD hS hA ⟨rfl, rfl, rfl, rfl, rfl, rfl⟩ (jn_nd (is := [0]) hD rfl rfl) 0 8 rfl rfl rfl rfl rfl hl.1 (Nat.le_of_ble_eq_true rfl) dX10_set_2 (fun H2 locs2 hP' hD' hS' => ?_)
  replace hS := hS'
  replace hP : va_P (dC, dI) vwCl (fl [(w_X10 ad (0) cs en q2)]) H2 := hP'
  replace hD : va_D A (fl [(w_X10 ad (0) cs en q2)]) := hD'
  clear hP' hD' hS'
  refine lv_iload_n hx hb dX10_set_5 rfl (lv_at hl 1 rfl) ?_
  refine lv_iload_n hx hb dX10_set_6 rfl (lv_at hl 2 rfl) ?_
  replace hR := bd_e hR
  obtain ⟨q7, gq7, hR⟩ := hR
  replace hP : va_P (dC, dI) vwCl (fl [[((ad 0), .inr (8, [.ref (ad (0 + 1)), .ref (ad (0 + 29)), .ref (ad (0 + 57)), .int (q2 1 3 2 0 0), .ref (ad (0 + 85)), .ref (ad (0 + 199)), .ref (ad (0 + 202))]))], (w_X5 ad (0 + 1) cs (q2 1 0)), (w_X5 ad (0 + 29) cs (q2 1 1)), (w_X5 ad (0 + 57) cs (q2 1 2)), (w_X3 ad (0 + 85) cs (q2 0)), (w_X2 ad (0 + 199) cs (q2 1 3 0)), (w_X7 ad (0 + 202) cs en (q2 1 3 1))]) H2 := hP
  replace hD : va_D A (fl [[((ad 0), .inr (8, [.ref (ad (0 + 1)), .ref (ad (0 + 29)), .ref (ad (0 + 57)), .int (q2 1 3 2 0 0), .ref (ad (0 + 85)), .ref (ad (0 + 199)), .ref (ad (0 + 202))]))], (w_X5 ad (0 + 1) cs (q2 1 0)), (w_X5 ad (0 + 29) cs (q2 1 1)), (w_X5 ad (0 + 57) cs (q2 1 2)), (w_X3 ad (0 + 85) cs (q2 0)), (w_X2 ad (0 + 199) cs (q2 1 3 0)), (w_X7 ad (0 + 202) cs en (q2 1 3 1))]) := hD
  refine cl_Vi (As := [.int p1, .int p2]) (rest := [.ref (ad 0)]) (L := [[((ad 0), .inr (8, [.ref (ad (0 + 1)), .ref (ad (0 + 29)), .ref (ad (0 + 57)), .int (q2 1 3 2 0 0), .ref (ad (0 + 85)), .ref (ad (0 + 199)), .ref (ad (0 + 202))]))], (w_X5 ad (0 + 1) cs (q2 1 0)), (w_X5 ad (0 + 29) cs (q2 1 1)), (w_X5 ad (0 + 57) cs (q2 1 2)), (w_X3 ad (0 + 85) cs (q2 0)), (w_X2 ad (0 + 199) cs (q2 1 3 0)), (w_X7 ad (0 + 202) cs en (q2 1 3 1))]) (L' := [[((ad 0), .inr (8, [.ref (ad (0 + 1)), .ref (ad (0 + 29)), .ref (ad (0 + 57)), .int ((sU q2 1 (sU (q2 1) 1 q7.2)) 1 3 2 0 0), .ref (ad (0 + 85)), .ref (ad (0 + 199)), .ref (ad (0 + 202))]))], (w_X5 ad (0 + 1) cs ((sU q2 1 (sU (q2 1) 1 q7.2)) 1 0)), (w_X5 ad (0 + 29) cs ((sU q2 1 (sU (q2 1) 1 q7.2)) 1 1)), (w_X5 ad (0 + 57) cs ((sU q2 1 (sU (q2 1) 1 q7.2)) 1 2)), (w_X3 ad (0 + 85) cs ((sU q2 1 (sU (q2 1) 1 q7.2)) 0)), (w_X2 ad (0 + 199) cs ((sU q2 1 (sU (q2 1) 1 q7.2)) 1 3 0)), (w_X7 ad (0 + 202) cs en ((sU q2 1 (sU (q2 1) 1 q7.2)) 1 3 1))]) (Wc := [(w_X5 ad (0 + 29) cs (q2 1 1))]) (Wc' := [(w_X5 ad (0 + 29) cs q7.2)]) (is := [2]) (js := [0, 1, 3, 4, 5, 6]) ⟨hx, hb, hml, hown, hts⟩ (k_X5_changeSetting l dC dI cs ad (0 + 29) H2.size (q2 1 1) p1 p2 q7.1 q7.2 gq7) (cwV 2 hts gX10_set_X5_changeSetting rfl rfl rfl cd_X5_changeSetting ⟨Nat.le_of_ble_eq_true rfl, Nat.le_of_ble_eq_true rfl⟩) hK hP hD hS hA ⟨rfl, rfl, rfl, rfl, rfl, rfl⟩ (jn_nd (is := [2]) hD rfl rfl) 29 4 rfl rfl rfl rfl rfl hl.1 (Nat.le_of_ble_eq_true rfl) dX10_set_7 (fun H7 locs7 hP' hD' hS' => ?_)
  replace hS := hS'
  have hP' : va_P (dC, dI) vwCl (fl [(w_X10 ad (0) cs en (sU q2 1 (sU (q2 1) 1 q7.2)))]) H7 := hP'
  have hD' : va_D A (fl [(w_X10 ad (0) cs en (sU q2 1 (sU (q2 1) 1 q7.2)))]) := hD'
  replace hR := bn_e hR
  obtain ⟨S1_7, eS1_7, hR⟩ := hR
  replace hP : va_P (dC, dI) vwCl (fl [(w_X10 ad (0) cs en S1_7)]) H7 := by rw [eS1_7]; exact hP'
  replace hD : va_D A (fl [(w_X10 ad (0) cs en S1_7)]) := by rw [eS1_7]; exact hD'
  clear hP' hD' hS'
  replace hR := bd_e hR
  obtain ⟨q10, gq10, hR⟩ := hR
  refine cl_Vi (As := [.int q7.1]) (rest := []) (L := [(w_X10 ad (0) cs en S1_7)]) (L' := [(w_X10 ad (0) cs en q10.2)]) (Wc := [(w_X10 ad (0) cs en S1_7)]) (Wc' := [(w_X10 ad (0) cs en q10.2)]) (is := [0]) (js := []) ⟨hx, hb, hml, hown, hts⟩ (k_X10_settle l dC dI cs ad en H7.size S1_7 q7.1 q10.1 q10.2 gq10) (cwV 1 hts gX10_set_X10_settle rfl rfl rfl cd_X10_settle ⟨Nat.le_of_ble_eq_true rfl, Nat.le_of_ble_eq_true rfl⟩) hK hP hD hS hA ⟨rfl, rfl, rfl, rfl, rfl, rfl⟩ (jn_nd (is := [0]) hD rfl rfl) 0 8 rfl rfl rfl rfl rfl hl.1 (Nat.le_of_ble_eq_true rfl) dX10_set_10 (fun H10 locs10 hP' hD' hS' => ?_)
  replace hS := hS'
  replace hP : va_P (dC, dI) vwCl (fl [(w_X10 ad (0) cs en q10.2)]) H10 := hP'
  replace hD : va_D A (fl [(w_X10 ad (0) cs en q10.2)]) := hD'
  clear hP' hD' hS'
  replace hR := Option.some.inj hR
  obtain ⟨e9, hR⟩ := Prod.mk.inj hR
  have eu1 := hR
  replace hP : va_P (dC, dI) vwCl (fl [(w_X10 ad (0) cs en u1)]) H10 := by rw [← eu1]; exact hP
  replace hD : va_D A (fl [(w_X10 ad (0) cs en u1)]) := by rw [← eu1]; exact hD
  exact W.iret hx hb hr (fun t ht hW => ⟨⟨_, (), rfl, e9, by rw [ht]; exact hP, va_K.moved hW.alike hK, hD⟩, hS.F ht⟩) hS.2.2 dX10_set_13
set_option maxHeartbeats 8000000 in
set_option maxRecDepth 100000 in
theorem k_X10_stationOf (l : Launch) (dC : Nat → ClassId) (dI : Nat → Nat → Nat) (cs : Nat → ClassId) (ad : Nat → Nat) (en : Nat → Nat) (sz : Nat) (S1 : T5) (p1 : Int32) (p2 : Int32) (r : Int32) (u1 : T5) (hR : fX10_stationOf S1 p1 p2 = some (r, u1)) : Met l yX10_stationOf wsX10_stationOf ({ frames := 3, cells := 0, slots := 0, locals := 70 } : Room) (va_Pc [.ref (ad 0), .int p1, .int p2] (pW dC dI (tyL cs) (fl [(w_X10 ad (0) cs en S1)]) sz)) (QI dC dI (tyL cs) (va_A (fl [(w_X10 ad (0) cs en S1)]) sz) (fl [(w_X10 ad (0) cs en u1)]) r) 0 0 (va_A (fl [(w_X10 ad (0) cs en S1)]) sz) := by
  refine mt_of (own := RX10) (cc := cX10_stationOf) (maxL := 3) (ret := (some .int)) (Qc := fun A => QI dC dI (tyL cs) A (fl [(w_X10 ad (0) cs en u1)]) r) rfl (by decide) rfl (Nat.le_of_ble_eq_true rfl) (fun p e s m below meth c A ls hsz hx hb hr hts hown hlocks hml hA hK hP hD hS hl => ?_)
  subst hsz
  have hl : lv_has ls 3 [(0, .ref (ad 0)), (1, .int p1), (2, .int p2)] := hl
  have hF10 := hts (.fieldLink RX10 10 "DockedBikes" "now" "LDockedBikes$Road;") (List.mem_of_getElem? (i := 1) rfl)
  have hF32 := hts (.fieldLink RX10 32 "DockedBikes" "filling" "LDockedBikes$Filling;") (List.mem_of_getElem? (i := 6) rfl)
  have hF98 := hts (.fieldLink RX10 98 "DockedBikes$Road" "stations" "LDockedBikes$Stations;") (List.mem_of_getElem? (i := 2) rfl)
  have hF108 := hts (.fieldLink RX10 108 "DockedBikes$Stations" "place" "[I") (List.mem_of_getElem? (i := 3) rfl)
  have hF112 := hts (.fieldLink RX10 112 "DockedBikes$Stations" "docks" "[I") (List.mem_of_getElem? (i := 4) rfl)
  have hF115 := hts (.fieldLink RX10 115 "DockedBikes$Road" "bicycles" "LDockedBikes$Bicycles;") (List.mem_of_getElem? (i := 5) rfl)
  have hF131 := hts (.fieldLink RX10 131 "DockedBikes$Stations" "began" "[I") (List.mem_of_getElem? (i := 7) rfl)
  have hF134 := hts (.fieldLink RX10 134 "DockedBikes$Stations" "ended" "[I") (List.mem_of_getElem? (i := 8) rfl)
  have hinX10 : ∀ w ∈ wsX100, w ∈ wsX10_stationOf := by decide +kernel
  have hinX5 : ∀ w ∈ wsX50, w ∈ wsX10_stationOf := by decide +kernel
  have hinX6 : ∀ w ∈ wsX60, w ∈ wsX10_stationOf := by decide +kernel
  refine lv_aload_n hx hb dX10_stationOf_0 rfl (lv_at hl 0 rfl) ?_
  refine va_get (D := (dC, dI)) (ci := 8) (v := .ref (ad (0 + 1))) (C := RX10) (T := TX10) (N := 7) hx hb hts hinX10 hown hK hP 0 rfl rfl 0 (by decide) hF10 (fun _ h9 => h9) rfl dX10_stationOf_1 ?_
  refine va_get (D := (dC, dI)) (ci := 4) (v := .ref (ad (0 + 1 + 1))) (C := RX5) (T := TX5) (N := 6) hx hb hts hinX5 hown hK hP 1 rfl rfl 0 (by decide) hF98 (fun _ h9 => h9) rfl dX10_stationOf_4 ?_
  refine lv_iload_n hx hb dX10_stationOf_7 rfl (lv_at hl 1 rfl) ?_
  replace hR := bd_e hR
  obtain ⟨q8, gq8, hR⟩ := hR
  replace hP : va_P (dC, dI) vwCl (fl [[((ad 0), .inr (8, [.ref (ad (0 + 1)), .ref (ad (0 + 29)), .ref (ad (0 + 57)), .int (S1 1 3 2 0 0), .ref (ad (0 + 85)), .ref (ad (0 + 199)), .ref (ad (0 + 202))]))], [((ad (0 + 1)), .inr (4, [.ref (ad (0 + 1 + 1)), .ref (ad (0 + 1 + 6)), .ref (ad (0 + 1 + 13)), .ref (ad (0 + 1 + 23)), .ref (ad (0 + 1 + 27)), .int ((S1 1 0) 4 1 0)]))], (w_X6 ad (0 + 1 + 1) cs ((S1 1 0) 0)), (w_X1 ad (0 + 1 + 6) cs ((S1 1 0) 1)), (w_X4 ad (0 + 1 + 13) cs ((S1 1 0) 2)), (w_X8 ad (0 + 1 + 23) cs ((S1 1 0) 3)), [((ad (0 + 1 + 27)), .inl (cs 0, 3, .inl ((S1 1 0) 4 0)))], (w_X5 ad (0 + 29) cs (S1 1 1)), (w_X5 ad (0 + 57) cs (S1 1 2)), (w_X3 ad (0 + 85) cs (S1 0)), (w_X2 ad (0 + 199) cs (S1 1 3 0)), (w_X7 ad (0 + 202) cs en (S1 1 3 1))]) s.heap := hP
  replace hD : va_D A (fl [[((ad 0), .inr (8, [.ref (ad (0 + 1)), .ref (ad (0 + 29)), .ref (ad (0 + 57)), .int (S1 1 3 2 0 0), .ref (ad (0 + 85)), .ref (ad (0 + 199)), .ref (ad (0 + 202))]))], [((ad (0 + 1)), .inr (4, [.ref (ad (0 + 1 + 1)), .ref (ad (0 + 1 + 6)), .ref (ad (0 + 1 + 13)), .ref (ad (0 + 1 + 23)), .ref (ad (0 + 1 + 27)), .int ((S1 1 0) 4 1 0)]))], (w_X6 ad (0 + 1 + 1) cs ((S1 1 0) 0)), (w_X1 ad (0 + 1 + 6) cs ((S1 1 0) 1)), (w_X4 ad (0 + 1 + 13) cs ((S1 1 0) 2)), (w_X8 ad (0 + 1 + 23) cs ((S1 1 0) 3)), [((ad (0 + 1 + 27)), .inl (cs 0, 3, .inl ((S1 1 0) 4 0)))], (w_X5 ad (0 + 29) cs (S1 1 1)), (w_X5 ad (0 + 57) cs (S1 1 2)), (w_X3 ad (0 + 85) cs (S1 0)), (w_X2 ad (0 + 199) cs (S1 1 3 0)), (w_X7 ad (0 + 202) cs en (S1 1 3 1))]) := hD
  refine cl_Vi (As := [.int p1]) (rest := []) (L := [[((ad 0), .inr (8, [.ref (ad (0 + 1)), .ref (ad (0 + 29)), .ref (ad (0 + 57)), .int (S1 1 3 2 0 0), .ref (ad (0 + 85)), .ref (ad (0 + 199)), .ref (ad (0 + 202))]))], [((ad (0 + 1)), .inr (4, [.ref (ad (0 + 1 + 1)), .ref (ad (0 + 1 + 6)), .ref (ad (0 + 1 + 13)), .ref (ad (0 + 1 + 23)), .ref (ad (0 + 1 + 27)), .int ((S1 1 0) 4 1 0)]))], (w_X6 ad (0 + 1 + 1) cs ((S1 1 0) 0)), (w_X1 ad (0 + 1 + 6) cs ((S1 1 0) 1)), (w_X4 ad (0 + 1 + 13) cs ((S1 1 0) 2)), (w_X8 ad (0 + 1 + 23) cs ((S1 1 0) 3)), [((ad (0 + 1 + 27)), .inl (cs 0, 3, .inl ((S1 1 0) 4 0)))], (w_X5 ad (0 + 29) cs (S1 1 1)), (w_X5 ad (0 + 57) cs (S1 1 2)), (w_X3 ad (0 + 85) cs (S1 0)), (w_X2 ad (0 + 199) cs (S1 1 3 0)), (w_X7 ad (0 + 202) cs en (S1 1 3 1))]) (L' := [[((ad 0), .inr (8, [.ref (ad (0 + 1)), .ref (ad (0 + 29)), .ref (ad (0 + 57)), .int (S1 1 3 2 0 0), .ref (ad (0 + 85)), .ref (ad (0 + 199)), .ref (ad (0 + 202))]))], [((ad (0 + 1)), .inr (4, [.ref (ad (0 + 1 + 1)), .ref (ad (0 + 1 + 6)), .ref (ad (0 + 1 + 13)), .ref (ad (0 + 1 + 23)), .ref (ad (0 + 1 + 27)), .int ((S1 1 0) 4 1 0)]))], (w_X6 ad (0 + 1 + 1) cs ((S1 1 0) 0)), (w_X1 ad (0 + 1 + 6) cs ((S1 1 0) 1)), (w_X4 ad (0 + 1 + 13) cs ((S1 1 0) 2)), (w_X8 ad (0 + 1 + 23) cs ((S1 1 0) 3)), [((ad (0 + 1 + 27)), .inl (cs 0, 3, .inl ((S1 1 0) 4 0)))], (w_X5 ad (0 + 29) cs (S1 1 1)), (w_X5 ad (0 + 57) cs (S1 1 2)), (w_X3 ad (0 + 85) cs (S1 0)), (w_X2 ad (0 + 199) cs (S1 1 3 0)), (w_X7 ad (0 + 202) cs en (S1 1 3 1))]) (Wc := [(w_X6 ad (0 + 1 + 1) cs ((S1 1 0) 0))]) (Wc' := [(w_X6 ad (0 + 1 + 1) cs (S1 1 0 0))]) (is := [2]) (js := [0, 1, 3, 4, 5, 6, 7, 8, 9, 10, 11]) ⟨hx, hb, hml, hown, hts⟩ (k_X6_has l dC dI cs ad (0 + 1 + 1) s.heap.size (S1 1 0 0) p1 q8 gq8) (cwV 1 hts gX10_stationOf_X6_has rfl rfl rfl cd_X6_has ⟨Nat.le_of_ble_eq_true rfl, Nat.le_of_ble_eq_true rfl⟩) hK hP hD hS hA ⟨rfl, rfl, rfl, rfl, rfl, rfl⟩ (jn_nd (is := [2]) hD rfl rfl) 2 5 rfl rfl rfl rfl rfl hl.1 (Nat.le_of_ble_eq_true rfl) dX10_stationOf_8 (fun H8 locs8 hP' hD' hS' => ?_)
  replace hS := hS'
  replace hP : va_P (dC, dI) vwCl (fl [(w_X10 ad (0) cs en S1)]) H8 := hP'
  replace hD : va_D A (fl [(w_X10 ad (0) cs en S1)]) := hD'
  clear hP' hD' hS'
  refine lv_if_ne (tgt := 16) hx hb dX10_stationOf_11 (by decide) (fun c11 => ?_) (fun c11 => ?_)
  · replace hR := it_f hR c11
    refine lv_iload_n hx hb dX10_stationOf_16 rfl (lv_at hl 2 rfl) ?_
    by_cases c17_0 : p2 = 0
    · replace hR := it_t hR c17_0
      refine lv_tableIn (off := 43) (tgt := 60) hx hb dX10_stationOf_17 (by rw [c17_0]; decide) (by rw [c17_0]; decide) (by rw [c17_0]; rfl) (by decide) ?_
      refine lv_aload_n hx hb dX10_stationOf_60 rfl (lv_at hl 0 rfl) ?_
      refine va_get (D := (dC, dI)) (ci := 8) (v := .ref (ad (0 + 1))) (C := RX10) (T := TX10) (N := 7) hx hb hts hinX10 hown hK hP 0 rfl rfl 0 (by decide) hF10 (fun _ h9 => h9) rfl dX10_stationOf_61 ?_
      refine va_get (D := (dC, dI)) (ci := 4) (v := .ref (ad (0 + 1 + 1))) (C := RX5) (T := TX5) (N := 6) hx hb hts hinX5 hown hK hP 1 rfl rfl 0 (by decide) hF98 (fun _ h9 => h9) rfl dX10_stationOf_64 ?_
      refine va_get (D := (dC, dI)) (ci := 5) (v := .ref (ad (0 + 1 + 1 + 1))) (C := RX6) (T := TX6) (N := 5) hx hb hts hinX6 hown hK hP 2 rfl rfl 1 (by decide) hF108 (fun _ h9 => h9) rfl dX10_stationOf_67 ?_
      refine lv_iload_n hx hb dX10_stationOf_70 rfl (lv_at hl 1 rfl) ?_
      replace hR := gi_e hR
      obtain ⟨i71, hR⟩ := hR
      refine va_iald hx hb hK hP 3 0 rfl rfl i71 dX10_stationOf_71 ?_
      replace hR := Option.some.inj hR
      obtain ⟨e9, hR⟩ := Prod.mk.inj hR
      have eu1 := hR
      replace hP : va_P (dC, dI) vwCl (fl [(w_X10 ad (0) cs en u1)]) H8 := by rw [← eu1]; exact hP
      replace hD : va_D A (fl [(w_X10 ad (0) cs en u1)]) := by rw [← eu1]; exact hD
      exact W.iret hx hb hr (fun t ht hW => ⟨⟨_, (), rfl, e9, by rw [ht]; exact hP, va_K.moved hW.alike hK, hD⟩, hS.F ht⟩) hS.2.2 dX10_stationOf_72
    · replace hR := it_f hR c17_0
      by_cases c17_1 : p2 = 1
      · replace hR := it_t hR c17_1
        refine lv_tableIn (off := 56) (tgt := 73) hx hb dX10_stationOf_17 (by rw [c17_1]; decide) (by rw [c17_1]; decide) (by rw [c17_1]; rfl) (by decide) ?_
        refine lv_aload_n hx hb dX10_stationOf_73 rfl (lv_at hl 0 rfl) ?_
        refine va_get (D := (dC, dI)) (ci := 8) (v := .ref (ad (0 + 1))) (C := RX10) (T := TX10) (N := 7) hx hb hts hinX10 hown hK hP 0 rfl rfl 0 (by decide) hF10 (fun _ h9 => h9) rfl dX10_stationOf_74 ?_
        refine va_get (D := (dC, dI)) (ci := 4) (v := .ref (ad (0 + 1 + 1))) (C := RX5) (T := TX5) (N := 6) hx hb hts hinX5 hown hK hP 1 rfl rfl 0 (by decide) hF98 (fun _ h9 => h9) rfl dX10_stationOf_77 ?_
        refine va_get (D := (dC, dI)) (ci := 5) (v := .ref (ad (0 + 1 + 1 + 2))) (C := RX6) (T := TX6) (N := 5) hx hb hts hinX6 hown hK hP 2 rfl rfl 2 (by decide) hF112 (fun _ h9 => h9) rfl dX10_stationOf_80 ?_
        refine lv_iload_n hx hb dX10_stationOf_83 rfl (lv_at hl 1 rfl) ?_
        replace hR := gi_e hR
        obtain ⟨i84, hR⟩ := hR
        refine va_iald hx hb hK hP 4 0 rfl rfl i84 dX10_stationOf_84 ?_
        replace hR := Option.some.inj hR
        obtain ⟨e9, hR⟩ := Prod.mk.inj hR
        have eu1 := hR
        replace hP : va_P (dC, dI) vwCl (fl [(w_X10 ad (0) cs en u1)]) H8 := by rw [← eu1]; exact hP
        replace hD : va_D A (fl [(w_X10 ad (0) cs en u1)]) := by rw [← eu1]; exact hD
        exact W.iret hx hb hr (fun t ht hW => ⟨⟨_, (), rfl, e9, by rw [ht]; exact hP, va_K.moved hW.alike hK, hD⟩, hS.F ht⟩) hS.2.2 dX10_stationOf_85
      · replace hR := it_f hR c17_1
        by_cases c17_2 : p2 = 2
        · replace hR := it_t hR c17_2
          refine lv_tableIn (off := 69) (tgt := 86) hx hb dX10_stationOf_17 (by rw [c17_2]; decide) (by rw [c17_2]; decide) (by rw [c17_2]; rfl) (by decide) ?_
          refine lv_aload_n hx hb dX10_stationOf_86 rfl (lv_at hl 0 rfl) ?_
          refine va_get (D := (dC, dI)) (ci := 8) (v := .ref (ad (0 + 1))) (C := RX10) (T := TX10) (N := 7) hx hb hts hinX10 hown hK hP 0 rfl rfl 0 (by decide) hF10 (fun _ h9 => h9) rfl dX10_stationOf_87 ?_
          refine va_get (D := (dC, dI)) (ci := 4) (v := .ref (ad (0 + 1 + 6))) (C := RX5) (T := TX5) (N := 6) hx hb hts hinX5 hown hK hP 1 rfl rfl 1 (by decide) hF115 (fun _ h9 => h9) rfl dX10_stationOf_90 ?_
          refine lv_iconst (v := 0) hx hb dX10_stationOf_93 ic_0 ?_
          refine lv_iload_n hx hb dX10_stationOf_94 rfl (lv_at hl 1 rfl) ?_
          replace hR := bd_e hR
          obtain ⟨q95, gq95, hR⟩ := hR
          replace hP : va_P (dC, dI) vwCl (fl [[((ad 0), .inr (8, [.ref (ad (0 + 1)), .ref (ad (0 + 29)), .ref (ad (0 + 57)), .int (S1 1 3 2 0 0), .ref (ad (0 + 85)), .ref (ad (0 + 199)), .ref (ad (0 + 202))]))], [((ad (0 + 1)), .inr (4, [.ref (ad (0 + 1 + 1)), .ref (ad (0 + 1 + 6)), .ref (ad (0 + 1 + 13)), .ref (ad (0 + 1 + 23)), .ref (ad (0 + 1 + 27)), .int ((S1 1 0) 4 1 0)]))], (w_X6 ad (0 + 1 + 1) cs ((S1 1 0) 0)), (w_X1 ad (0 + 1 + 6) cs ((S1 1 0) 1)), (w_X4 ad (0 + 1 + 13) cs ((S1 1 0) 2)), (w_X8 ad (0 + 1 + 23) cs ((S1 1 0) 3)), [((ad (0 + 1 + 27)), .inl (cs 0, 3, .inl ((S1 1 0) 4 0)))], (w_X5 ad (0 + 29) cs (S1 1 1)), (w_X5 ad (0 + 57) cs (S1 1 2)), (w_X3 ad (0 + 85) cs (S1 0)), (w_X2 ad (0 + 199) cs (S1 1 3 0)), (w_X7 ad (0 + 202) cs en (S1 1 3 1))]) H8 := hP
          replace hD : va_D A (fl [[((ad 0), .inr (8, [.ref (ad (0 + 1)), .ref (ad (0 + 29)), .ref (ad (0 + 57)), .int (S1 1 3 2 0 0), .ref (ad (0 + 85)), .ref (ad (0 + 199)), .ref (ad (0 + 202))]))], [((ad (0 + 1)), .inr (4, [.ref (ad (0 + 1 + 1)), .ref (ad (0 + 1 + 6)), .ref (ad (0 + 1 + 13)), .ref (ad (0 + 1 + 23)), .ref (ad (0 + 1 + 27)), .int ((S1 1 0) 4 1 0)]))], (w_X6 ad (0 + 1 + 1) cs ((S1 1 0) 0)), (w_X1 ad (0 + 1 + 6) cs ((S1 1 0) 1)), (w_X4 ad (0 + 1 + 13) cs ((S1 1 0) 2)), (w_X8 ad (0 + 1 + 23) cs ((S1 1 0) 3)), [((ad (0 + 1 + 27)), .inl (cs 0, 3, .inl ((S1 1 0) 4 0)))], (w_X5 ad (0 + 29) cs (S1 1 1)), (w_X5 ad (0 + 57) cs (S1 1 2)), (w_X3 ad (0 + 85) cs (S1 0)), (w_X2 ad (0 + 199) cs (S1 1 3 0)), (w_X7 ad (0 + 202) cs en (S1 1 3 1))]) := hD
          refine cl_Vi (As := [.int (0 : Int32), .int p1]) (rest := []) (L := [[((ad 0), .inr (8, [.ref (ad (0 + 1)), .ref (ad (0 + 29)), .ref (ad (0 + 57)), .int (S1 1 3 2 0 0), .ref (ad (0 + 85)), .ref (ad (0 + 199)), .ref (ad (0 + 202))]))], [((ad (0 + 1)), .inr (4, [.ref (ad (0 + 1 + 1)), .ref (ad (0 + 1 + 6)), .ref (ad (0 + 1 + 13)), .ref (ad (0 + 1 + 23)), .ref (ad (0 + 1 + 27)), .int ((S1 1 0) 4 1 0)]))], (w_X6 ad (0 + 1 + 1) cs ((S1 1 0) 0)), (w_X1 ad (0 + 1 + 6) cs ((S1 1 0) 1)), (w_X4 ad (0 + 1 + 13) cs ((S1 1 0) 2)), (w_X8 ad (0 + 1 + 23) cs ((S1 1 0) 3)), [((ad (0 + 1 + 27)), .inl (cs 0, 3, .inl ((S1 1 0) 4 0)))], (w_X5 ad (0 + 29) cs (S1 1 1)), (w_X5 ad (0 + 57) cs (S1 1 2)), (w_X3 ad (0 + 85) cs (S1 0)), (w_X2 ad (0 + 199) cs (S1 1 3 0)), (w_X7 ad (0 + 202) cs en (S1 1 3 1))]) (L' := [[((ad 0), .inr (8, [.ref (ad (0 + 1)), .ref (ad (0 + 29)), .ref (ad (0 + 57)), .int (S1 1 3 2 0 0), .ref (ad (0 + 85)), .ref (ad (0 + 199)), .ref (ad (0 + 202))]))], [((ad (0 + 1)), .inr (4, [.ref (ad (0 + 1 + 1)), .ref (ad (0 + 1 + 6)), .ref (ad (0 + 1 + 13)), .ref (ad (0 + 1 + 23)), .ref (ad (0 + 1 + 27)), .int ((S1 1 0) 4 1 0)]))], (w_X6 ad (0 + 1 + 1) cs ((S1 1 0) 0)), (w_X1 ad (0 + 1 + 6) cs ((S1 1 0) 1)), (w_X4 ad (0 + 1 + 13) cs ((S1 1 0) 2)), (w_X8 ad (0 + 1 + 23) cs ((S1 1 0) 3)), [((ad (0 + 1 + 27)), .inl (cs 0, 3, .inl ((S1 1 0) 4 0)))], (w_X5 ad (0 + 29) cs (S1 1 1)), (w_X5 ad (0 + 57) cs (S1 1 2)), (w_X3 ad (0 + 85) cs (S1 0)), (w_X2 ad (0 + 199) cs (S1 1 3 0)), (w_X7 ad (0 + 202) cs en (S1 1 3 1))]) (Wc := [(w_X1 ad (0 + 1 + 6) cs ((S1 1 0) 1))]) (Wc' := [(w_X1 ad (0 + 1 + 6) cs (S1 1 0 1))]) (is := [3]) (js := [0, 1, 2, 4, 5, 6, 7, 8, 9, 10, 11]) ⟨hx, hb, hml, hown, hts⟩ (k_X1_setAt l dC dI cs ad (0 + 1 + 6) H8.size (S1 1 0 1) (0 : Int32) p1 q95 gq95) (cwV 2 hts gX10_stationOf_X1_setAt rfl rfl rfl cd_X1_setAt ⟨Nat.le_of_ble_eq_true rfl, Nat.le_of_ble_eq_true rfl⟩) hK hP hD hS hA ⟨rfl, rfl, rfl, rfl, rfl, rfl⟩ (jn_nd (is := [3]) hD rfl rfl) 7 0 rfl rfl rfl rfl rfl hl.1 (Nat.le_of_ble_eq_true rfl) dX10_stationOf_95 (fun H95 locs95 hP' hD' hS' => ?_)
          replace hS := hS'
          replace hP : va_P (dC, dI) vwCl (fl [(w_X10 ad (0) cs en S1)]) H95 := hP'
          replace hD : va_D A (fl [(w_X10 ad (0) cs en S1)]) := hD'
          clear hP' hD' hS'
          replace hR := Option.some.inj hR
          obtain ⟨e9, hR⟩ := Prod.mk.inj hR
          have eu1 := hR
          replace hP : va_P (dC, dI) vwCl (fl [(w_X10 ad (0) cs en u1)]) H95 := by rw [← eu1]; exact hP
          replace hD : va_D A (fl [(w_X10 ad (0) cs en u1)]) := by rw [← eu1]; exact hD
          exact W.iret hx hb hr (fun t ht hW => ⟨⟨_, (), rfl, e9, by rw [ht]; exact hP, va_K.moved hW.alike hK, hD⟩, hS.F ht⟩) hS.2.2 dX10_stationOf_98
        · replace hR := it_f hR c17_2
          by_cases c17_3 : p2 = 3
          · replace hR := it_t hR c17_3
            refine lv_tableIn (off := 82) (tgt := 99) hx hb dX10_stationOf_17 (by rw [c17_3]; decide) (by rw [c17_3]; decide) (by rw [c17_3]; rfl) (by decide) ?_
            refine lv_aload_n hx hb dX10_stationOf_99 rfl (lv_at hl 0 rfl) ?_
            refine va_get (D := (dC, dI)) (ci := 8) (v := .ref (ad (0 + 1))) (C := RX10) (T := TX10) (N := 7) hx hb hts hinX10 hown hK hP 0 rfl rfl 0 (by decide) hF10 (fun _ h9 => h9) rfl dX10_stationOf_100 ?_
            refine lv_iload_n hx hb dX10_stationOf_103 rfl (lv_at hl 1 rfl) ?_
            replace hR := bd_e hR
            obtain ⟨q104, gq104, hR⟩ := hR
            replace hP : va_P (dC, dI) vwCl (fl [[((ad 0), .inr (8, [.ref (ad (0 + 1)), .ref (ad (0 + 29)), .ref (ad (0 + 57)), .int (S1 1 3 2 0 0), .ref (ad (0 + 85)), .ref (ad (0 + 199)), .ref (ad (0 + 202))]))], (w_X5 ad (0 + 1) cs (S1 1 0)), (w_X5 ad (0 + 29) cs (S1 1 1)), (w_X5 ad (0 + 57) cs (S1 1 2)), (w_X3 ad (0 + 85) cs (S1 0)), (w_X2 ad (0 + 199) cs (S1 1 3 0)), (w_X7 ad (0 + 202) cs en (S1 1 3 1))]) H8 := hP
            replace hD : va_D A (fl [[((ad 0), .inr (8, [.ref (ad (0 + 1)), .ref (ad (0 + 29)), .ref (ad (0 + 57)), .int (S1 1 3 2 0 0), .ref (ad (0 + 85)), .ref (ad (0 + 199)), .ref (ad (0 + 202))]))], (w_X5 ad (0 + 1) cs (S1 1 0)), (w_X5 ad (0 + 29) cs (S1 1 1)), (w_X5 ad (0 + 57) cs (S1 1 2)), (w_X3 ad (0 + 85) cs (S1 0)), (w_X2 ad (0 + 199) cs (S1 1 3 0)), (w_X7 ad (0 + 202) cs en (S1 1 3 1))]) := hD
            refine cl_Vi (As := [.int p1]) (rest := []) (L := [[((ad 0), .inr (8, [.ref (ad (0 + 1)), .ref (ad (0 + 29)), .ref (ad (0 + 57)), .int (S1 1 3 2 0 0), .ref (ad (0 + 85)), .ref (ad (0 + 199)), .ref (ad (0 + 202))]))], (w_X5 ad (0 + 1) cs (S1 1 0)), (w_X5 ad (0 + 29) cs (S1 1 1)), (w_X5 ad (0 + 57) cs (S1 1 2)), (w_X3 ad (0 + 85) cs (S1 0)), (w_X2 ad (0 + 199) cs (S1 1 3 0)), (w_X7 ad (0 + 202) cs en (S1 1 3 1))]) (L' := [[((ad 0), .inr (8, [.ref (ad (0 + 1)), .ref (ad (0 + 29)), .ref (ad (0 + 57)), .int (S1 1 3 2 0 0), .ref (ad (0 + 85)), .ref (ad (0 + 199)), .ref (ad (0 + 202))]))], (w_X5 ad (0 + 1) cs (S1 1 0)), (w_X5 ad (0 + 29) cs (S1 1 1)), (w_X5 ad (0 + 57) cs (S1 1 2)), (w_X3 ad (0 + 85) cs (S1 0)), (w_X2 ad (0 + 199) cs (S1 1 3 0)), (w_X7 ad (0 + 202) cs en (S1 1 3 1))]) (Wc := [(w_X5 ad (0 + 1) cs (S1 1 0))]) (Wc' := [(w_X5 ad (0 + 1) cs (S1 1 0))]) (is := [1]) (js := [0, 2, 3, 4, 5, 6]) ⟨hx, hb, hml, hown, hts⟩ (k_X5_unevenness l dC dI cs ad (0 + 1) H8.size (S1 1 0) p1 q104 gq104) (cwV 1 hts gX10_stationOf_X5_unevenness rfl rfl rfl cd_X5_unevenness ⟨Nat.le_of_ble_eq_true rfl, Nat.le_of_ble_eq_true rfl⟩) hK hP hD hS hA ⟨rfl, rfl, rfl, rfl, rfl, rfl⟩ (jn_nd (is := [1]) hD rfl rfl) 1 4 rfl rfl rfl rfl rfl hl.1 (Nat.le_of_ble_eq_true rfl) dX10_stationOf_104 (fun H104 locs104 hP' hD' hS' => ?_)
            replace hS := hS'
            replace hP : va_P (dC, dI) vwCl (fl [(w_X10 ad (0) cs en S1)]) H104 := hP'
            replace hD : va_D A (fl [(w_X10 ad (0) cs en S1)]) := hD'
            clear hP' hD' hS'
            replace hR := Option.some.inj hR
            obtain ⟨e9, hR⟩ := Prod.mk.inj hR
            have eu1 := hR
            replace hP : va_P (dC, dI) vwCl (fl [(w_X10 ad (0) cs en u1)]) H104 := by rw [← eu1]; exact hP
            replace hD : va_D A (fl [(w_X10 ad (0) cs en u1)]) := by rw [← eu1]; exact hD
            exact W.iret hx hb hr (fun t ht hW => ⟨⟨_, (), rfl, e9, by rw [ht]; exact hP, va_K.moved hW.alike hK, hD⟩, hS.F ht⟩) hS.2.2 dX10_stationOf_107
          · replace hR := it_f hR c17_3
            by_cases c17_4 : p2 = 4
            · replace hR := it_t hR c17_4
              refine lv_tableIn (off := 91) (tgt := 108) hx hb dX10_stationOf_17 (by rw [c17_4]; decide) (by rw [c17_4]; decide) (by rw [c17_4]; rfl) (by decide) ?_
              refine lv_aload_n hx hb dX10_stationOf_108 rfl (lv_at hl 0 rfl) ?_
              refine va_get (D := (dC, dI)) (ci := 8) (v := .ref (ad (0 + 199))) (C := RX10) (T := TX10) (N := 7) hx hb hts hinX10 hown hK hP 0 rfl rfl 5 (by decide) hF32 (fun _ h9 => h9) rfl dX10_stationOf_109 ?_
              refine lv_aload_n hx hb dX10_stationOf_112 rfl (lv_at hl 0 rfl) ?_
              refine va_get (D := (dC, dI)) (ci := 8) (v := .ref (ad (0 + 1))) (C := RX10) (T := TX10) (N := 7) hx hb hts hinX10 hown hK hP 0 rfl rfl 0 (by decide) hF10 (fun _ h9 => h9) rfl dX10_stationOf_113 ?_
              refine lv_iload_n hx hb dX10_stationOf_116 rfl (lv_at hl 1 rfl) ?_
              replace hR := bd_e hR
              obtain ⟨q117, gq117, hR⟩ := hR
              replace hP : va_P (dC, dI) vwCl (fl [[((ad 0), .inr (8, [.ref (ad (0 + 1)), .ref (ad (0 + 29)), .ref (ad (0 + 57)), .int (S1 1 3 2 0 0), .ref (ad (0 + 85)), .ref (ad (0 + 199)), .ref (ad (0 + 202))]))], (w_X5 ad (0 + 1) cs (S1 1 0)), (w_X5 ad (0 + 29) cs (S1 1 1)), (w_X5 ad (0 + 57) cs (S1 1 2)), (w_X3 ad (0 + 85) cs (S1 0)), (w_X2 ad (0 + 199) cs (S1 1 3 0)), (w_X7 ad (0 + 202) cs en (S1 1 3 1))]) H8 := hP
              replace hD : va_D A (fl [[((ad 0), .inr (8, [.ref (ad (0 + 1)), .ref (ad (0 + 29)), .ref (ad (0 + 57)), .int (S1 1 3 2 0 0), .ref (ad (0 + 85)), .ref (ad (0 + 199)), .ref (ad (0 + 202))]))], (w_X5 ad (0 + 1) cs (S1 1 0)), (w_X5 ad (0 + 29) cs (S1 1 1)), (w_X5 ad (0 + 57) cs (S1 1 2)), (w_X3 ad (0 + 85) cs (S1 0)), (w_X2 ad (0 + 199) cs (S1 1 3 0)), (w_X7 ad (0 + 202) cs en (S1 1 3 1))]) := hD
              refine cl_Vi (As := [.ref (ad (0 + 1)), .int p1]) (rest := []) (L := [[((ad 0), .inr (8, [.ref (ad (0 + 1)), .ref (ad (0 + 29)), .ref (ad (0 + 57)), .int (S1 1 3 2 0 0), .ref (ad (0 + 85)), .ref (ad (0 + 199)), .ref (ad (0 + 202))]))], (w_X5 ad (0 + 1) cs (S1 1 0)), (w_X5 ad (0 + 29) cs (S1 1 1)), (w_X5 ad (0 + 57) cs (S1 1 2)), (w_X3 ad (0 + 85) cs (S1 0)), (w_X2 ad (0 + 199) cs (S1 1 3 0)), (w_X7 ad (0 + 202) cs en (S1 1 3 1))]) (L' := [[((ad 0), .inr (8, [.ref (ad (0 + 1)), .ref (ad (0 + 29)), .ref (ad (0 + 57)), .int ((sU S1 1 (sU (S1 1) 3 (sU ((S1 1) 3) 0 q117.2))) 1 3 2 0 0), .ref (ad (0 + 85)), .ref (ad (0 + 199)), .ref (ad (0 + 202))]))], (w_X5 ad (0 + 1) cs ((sU S1 1 (sU (S1 1) 3 (sU ((S1 1) 3) 0 q117.2))) 1 0)), (w_X5 ad (0 + 29) cs ((sU S1 1 (sU (S1 1) 3 (sU ((S1 1) 3) 0 q117.2))) 1 1)), (w_X5 ad (0 + 57) cs ((sU S1 1 (sU (S1 1) 3 (sU ((S1 1) 3) 0 q117.2))) 1 2)), (w_X3 ad (0 + 85) cs ((sU S1 1 (sU (S1 1) 3 (sU ((S1 1) 3) 0 q117.2))) 0)), (w_X2 ad (0 + 199) cs ((sU S1 1 (sU (S1 1) 3 (sU ((S1 1) 3) 0 q117.2))) 1 3 0)), (w_X7 ad (0 + 202) cs en ((sU S1 1 (sU (S1 1) 3 (sU ((S1 1) 3) 0 q117.2))) 1 3 1))]) (Wc := [(w_X2 ad (0 + 199) cs (S1 1 3 0)), (w_X5 ad (0 + 1) cs (S1 1 0))]) (Wc' := [(w_X2 ad (0 + 199) cs q117.2), (w_X5 ad (0 + 1) cs (S1 1 0))]) (is := [5, 1]) (js := [0, 2, 3, 4, 6]) ⟨hx, hb, hml, hown, hts⟩ (k_X2_aim l dC dI cs ad (0 + 199) (0 + 1) H8.size (S1 1 3 0) (S1 1 0) p1 q117.1 q117.2 gq117) (cwV 2 hts gX10_stationOf_X2_aim rfl rfl rfl cd_X2_aim ⟨Nat.le_of_ble_eq_true rfl, Nat.le_of_ble_eq_true rfl⟩) hK hP hD hS hA ⟨rfl, rfl, rfl, rfl, rfl, rfl⟩ (jn_nd (is := [5, 1]) hD rfl rfl) 199 1 rfl rfl rfl rfl rfl hl.1 (Nat.le_of_ble_eq_true rfl) dX10_stationOf_117 (fun H117 locs117 hP' hD' hS' => ?_)
              replace hS := hS'
              have hP' : va_P (dC, dI) vwCl (fl [(w_X10 ad (0) cs en (sU S1 1 (sU (S1 1) 3 (sU ((S1 1) 3) 0 q117.2))))]) H117 := hP'
              have hD' : va_D A (fl [(w_X10 ad (0) cs en (sU S1 1 (sU (S1 1) 3 (sU ((S1 1) 3) 0 q117.2))))]) := hD'
              replace hR := bn_e hR
              obtain ⟨S1_117, eS1_117, hR⟩ := hR
              replace hP : va_P (dC, dI) vwCl (fl [(w_X10 ad (0) cs en S1_117)]) H117 := by rw [eS1_117]; exact hP'
              replace hD : va_D A (fl [(w_X10 ad (0) cs en S1_117)]) := by rw [eS1_117]; exact hD'
              clear hP' hD' hS'
              replace hR := Option.some.inj hR
              obtain ⟨e9, hR⟩ := Prod.mk.inj hR
              have eu1 := hR
              replace hP : va_P (dC, dI) vwCl (fl [(w_X10 ad (0) cs en u1)]) H117 := by rw [← eu1]; exact hP
              replace hD : va_D A (fl [(w_X10 ad (0) cs en u1)]) := by rw [← eu1]; exact hD
              exact W.iret hx hb hr (fun t ht hW => ⟨⟨_, (), rfl, e9, by rw [ht]; exact hP, va_K.moved hW.alike hK, hD⟩, hS.F ht⟩) hS.2.2 dX10_stationOf_120
            · replace hR := it_f hR c17_4
              by_cases c17_5 : p2 = 5
              · replace hR := it_t hR c17_5
                refine lv_tableIn (off := 104) (tgt := 121) hx hb dX10_stationOf_17 (by rw [c17_5]; decide) (by rw [c17_5]; decide) (by rw [c17_5]; rfl) (by decide) ?_
                refine lv_aload_n hx hb dX10_stationOf_121 rfl (lv_at hl 0 rfl) ?_
                refine va_get (D := (dC, dI)) (ci := 8) (v := .ref (ad (0 + 1))) (C := RX10) (T := TX10) (N := 7) hx hb hts hinX10 hown hK hP 0 rfl rfl 0 (by decide) hF10 (fun _ h9 => h9) rfl dX10_stationOf_122 ?_
                refine va_get (D := (dC, dI)) (ci := 4) (v := .ref (ad (0 + 1 + 1))) (C := RX5) (T := TX5) (N := 6) hx hb hts hinX5 hown hK hP 1 rfl rfl 0 (by decide) hF98 (fun _ h9 => h9) rfl dX10_stationOf_125 ?_
                refine va_get (D := (dC, dI)) (ci := 5) (v := .ref (ad (0 + 1 + 1 + 3))) (C := RX6) (T := TX6) (N := 5) hx hb hts hinX6 hown hK hP 2 rfl rfl 3 (by decide) hF131 (fun _ h9 => h9) rfl dX10_stationOf_128 ?_
                refine lv_iload_n hx hb dX10_stationOf_131 rfl (lv_at hl 1 rfl) ?_
                replace hR := gi_e hR
                obtain ⟨i132, hR⟩ := hR
                refine va_iald hx hb hK hP 5 0 rfl rfl i132 dX10_stationOf_132 ?_
                replace hR := Option.some.inj hR
                obtain ⟨e9, hR⟩ := Prod.mk.inj hR
                have eu1 := hR
                replace hP : va_P (dC, dI) vwCl (fl [(w_X10 ad (0) cs en u1)]) H8 := by rw [← eu1]; exact hP
                replace hD : va_D A (fl [(w_X10 ad (0) cs en u1)]) := by rw [← eu1]; exact hD
                exact W.iret hx hb hr (fun t ht hW => ⟨⟨_, (), rfl, e9, by rw [ht]; exact hP, va_K.moved hW.alike hK, hD⟩, hS.F ht⟩) hS.2.2 dX10_stationOf_133
              · replace hR := it_f hR c17_5
                by_cases c17_6 : p2 = 6
                · replace hR := it_t hR c17_6
                  refine lv_tableIn (off := 117) (tgt := 134) hx hb dX10_stationOf_17 (by rw [c17_6]; decide) (by rw [c17_6]; decide) (by rw [c17_6]; rfl) (by decide) ?_
                  refine lv_aload_n hx hb dX10_stationOf_134 rfl (lv_at hl 0 rfl) ?_
                  refine va_get (D := (dC, dI)) (ci := 8) (v := .ref (ad (0 + 1))) (C := RX10) (T := TX10) (N := 7) hx hb hts hinX10 hown hK hP 0 rfl rfl 0 (by decide) hF10 (fun _ h9 => h9) rfl dX10_stationOf_135 ?_
                  refine va_get (D := (dC, dI)) (ci := 4) (v := .ref (ad (0 + 1 + 1))) (C := RX5) (T := TX5) (N := 6) hx hb hts hinX5 hown hK hP 1 rfl rfl 0 (by decide) hF98 (fun _ h9 => h9) rfl dX10_stationOf_138 ?_
                  refine va_get (D := (dC, dI)) (ci := 5) (v := .ref (ad (0 + 1 + 1 + 4))) (C := RX6) (T := TX6) (N := 5) hx hb hts hinX6 hown hK hP 2 rfl rfl 4 (by decide) hF134 (fun _ h9 => h9) rfl dX10_stationOf_141 ?_
                  refine lv_iload_n hx hb dX10_stationOf_144 rfl (lv_at hl 1 rfl) ?_
                  replace hR := gi_e hR
                  obtain ⟨i145, hR⟩ := hR
                  refine va_iald hx hb hK hP 6 0 rfl rfl i145 dX10_stationOf_145 ?_
                  replace hR := Option.some.inj hR
                  obtain ⟨e9, hR⟩ := Prod.mk.inj hR
                  have eu1 := hR
                  replace hP : va_P (dC, dI) vwCl (fl [(w_X10 ad (0) cs en u1)]) H8 := by rw [← eu1]; exact hP
                  replace hD : va_D A (fl [(w_X10 ad (0) cs en u1)]) := by rw [← eu1]; exact hD
                  exact W.iret hx hb hr (fun t ht hW => ⟨⟨_, (), rfl, e9, by rw [ht]; exact hP, va_K.moved hW.alike hK, hD⟩, hS.F ht⟩) hS.2.2 dX10_stationOf_146
                · replace hR := it_f hR c17_6
                  refine lv_tableOut (tgt := 147) hx hb dX10_stationOf_17 (by have n0 := lv_neT (a := 0) c17_0 rfl; have n1 := lv_neT (a := 1) c17_1 rfl; have n2 := lv_neT (a := 2) c17_2 rfl; have n3 := lv_neT (a := 3) c17_3 rfl; have n4 := lv_neT (a := 4) c17_4 rfl; have n5 := lv_neT (a := 5) c17_5 rfl; have n6 := lv_neT (a := 6) c17_6 rfl; omega) (by decide) ?_
                  refine lv_iconst (v := (-1)) hx hb dX10_stationOf_147 ic_m1 ?_
                  replace hR := Option.some.inj hR
                  obtain ⟨e9, hR⟩ := Prod.mk.inj hR
                  have eu1 := hR
                  replace hP : va_P (dC, dI) vwCl (fl [(w_X10 ad (0) cs en u1)]) H8 := by rw [← eu1]; exact hP
                  replace hD : va_D A (fl [(w_X10 ad (0) cs en u1)]) := by rw [← eu1]; exact hD
                  exact W.iret hx hb hr (fun t ht hW => ⟨⟨_, (), rfl, e9, by rw [ht]; exact hP, va_K.moved hW.alike hK, hD⟩, hS.F ht⟩) hS.2.2 dX10_stationOf_148
  · replace hR := it_t hR c11
    refine lv_iconst (v := (-1)) hx hb dX10_stationOf_14 ic_m1 ?_
    replace hR := Option.some.inj hR
    obtain ⟨e9, hR⟩ := Prod.mk.inj hR
    have eu1 := hR
    replace hP : va_P (dC, dI) vwCl (fl [(w_X10 ad (0) cs en u1)]) H8 := by rw [← eu1]; exact hP
    replace hD : va_D A (fl [(w_X10 ad (0) cs en u1)]) := by rw [← eu1]; exact hD
    exact W.iret hx hb hr (fun t ht hW => ⟨⟨_, (), rfl, e9, by rw [ht]; exact hP, va_K.moved hW.alike hK, hD⟩, hS.F ht⟩) hS.2.2 dX10_stationOf_15
set_option maxHeartbeats 8000000 in
set_option maxRecDepth 100000 in
theorem k_X10_bicycleOf (l : Launch) (dC : Nat → ClassId) (dI : Nat → Nat → Nat) (cs : Nat → ClassId) (ad : Nat → Nat) (en : Nat → Nat) (sz : Nat) (S1 : T5) (p1 : Int32) (p2 : Int32) (r : Int32) (hR : fX10_bicycleOf S1 p1 p2 = some r) : Met l yX10_bicycleOf wsX10_bicycleOf ({ frames := 2, cells := 0, slots := 0, locals := 42 } : Room) (va_Pc [.ref (ad 0), .int p1, .int p2] (pW dC dI (tyL cs) (fl [(w_X10 ad (0) cs en S1)]) sz)) (QI dC dI (tyL cs) (va_A (fl [(w_X10 ad (0) cs en S1)]) sz) (fl [(w_X10 ad (0) cs en S1)]) r) 0 0 (va_A (fl [(w_X10 ad (0) cs en S1)]) sz) := by
  refine mt_of (own := RX10) (cc := cX10_bicycleOf) (maxL := 3) (ret := (some .int)) (Qc := fun A => QI dC dI (tyL cs) A (fl [(w_X10 ad (0) cs en S1)]) r) rfl (by decide) rfl (Nat.le_of_ble_eq_true rfl) (fun p e s m below meth c A ls hsz hx hb hr hts hown hlocks hml hA hK hP hD hS hl => ?_)
  subst hsz
  have hl : lv_has ls 3 [(0, .ref (ad 0)), (1, .int p1), (2, .int p2)] := hl
  have hF10 := hts (.fieldLink RX10 10 "DockedBikes" "now" "LDockedBikes$Road;") (List.mem_of_getElem? (i := 1) rfl)
  have hF115 := hts (.fieldLink RX10 115 "DockedBikes$Road" "bicycles" "LDockedBikes$Bicycles;") (List.mem_of_getElem? (i := 2) rfl)
  have hF138 := hts (.fieldLink RX10 138 "DockedBikes$Bicycles" "where" "[I") (List.mem_of_getElem? (i := 3) rfl)
  have hF144 := hts (.fieldLink RX10 144 "DockedBikes$Bicycles" "minutes" "[I") (List.mem_of_getElem? (i := 4) rfl)
  have hF147 := hts (.fieldLink RX10 147 "DockedBikes$Bicycles" "faulty" "[I") (List.mem_of_getElem? (i := 5) rfl)
  have hF150 := hts (.fieldLink RX10 150 "DockedBikes$Bicycles" "rides" "[I") (List.mem_of_getElem? (i := 6) rfl)
  have hinX1 : ∀ w ∈ wsX10, w ∈ wsX10_bicycleOf := by decide +kernel
  have hinX10 : ∀ w ∈ wsX100, w ∈ wsX10_bicycleOf := by decide +kernel
  have hinX5 : ∀ w ∈ wsX50, w ∈ wsX10_bicycleOf := by decide +kernel
  refine lv_aload_n hx hb dX10_bicycleOf_0 rfl (lv_at hl 0 rfl) ?_
  refine va_get (D := (dC, dI)) (ci := 8) (v := .ref (ad (0 + 1))) (C := RX10) (T := TX10) (N := 7) hx hb hts hinX10 hown hK hP 0 rfl rfl 0 (by decide) hF10 (fun _ h9 => h9) rfl dX10_bicycleOf_1 ?_
  refine va_get (D := (dC, dI)) (ci := 4) (v := .ref (ad (0 + 1 + 6))) (C := RX5) (T := TX5) (N := 6) hx hb hts hinX5 hown hK hP 1 rfl rfl 1 (by decide) hF115 (fun _ h9 => h9) rfl dX10_bicycleOf_4 ?_
  refine lv_iload_n hx hb dX10_bicycleOf_7 rfl (lv_at hl 1 rfl) ?_
  replace hR := bd_e hR
  obtain ⟨q8, gq8, hR⟩ := hR
  replace hP : va_P (dC, dI) vwCl (fl [[((ad 0), .inr (8, [.ref (ad (0 + 1)), .ref (ad (0 + 29)), .ref (ad (0 + 57)), .int (S1 1 3 2 0 0), .ref (ad (0 + 85)), .ref (ad (0 + 199)), .ref (ad (0 + 202))]))], [((ad (0 + 1)), .inr (4, [.ref (ad (0 + 1 + 1)), .ref (ad (0 + 1 + 6)), .ref (ad (0 + 1 + 13)), .ref (ad (0 + 1 + 23)), .ref (ad (0 + 1 + 27)), .int ((S1 1 0) 4 1 0)]))], (w_X6 ad (0 + 1 + 1) cs ((S1 1 0) 0)), (w_X1 ad (0 + 1 + 6) cs ((S1 1 0) 1)), (w_X4 ad (0 + 1 + 13) cs ((S1 1 0) 2)), (w_X8 ad (0 + 1 + 23) cs ((S1 1 0) 3)), [((ad (0 + 1 + 27)), .inl (cs 0, 3, .inl ((S1 1 0) 4 0)))], (w_X5 ad (0 + 29) cs (S1 1 1)), (w_X5 ad (0 + 57) cs (S1 1 2)), (w_X3 ad (0 + 85) cs (S1 0)), (w_X2 ad (0 + 199) cs (S1 1 3 0)), (w_X7 ad (0 + 202) cs en (S1 1 3 1))]) s.heap := hP
  replace hD : va_D A (fl [[((ad 0), .inr (8, [.ref (ad (0 + 1)), .ref (ad (0 + 29)), .ref (ad (0 + 57)), .int (S1 1 3 2 0 0), .ref (ad (0 + 85)), .ref (ad (0 + 199)), .ref (ad (0 + 202))]))], [((ad (0 + 1)), .inr (4, [.ref (ad (0 + 1 + 1)), .ref (ad (0 + 1 + 6)), .ref (ad (0 + 1 + 13)), .ref (ad (0 + 1 + 23)), .ref (ad (0 + 1 + 27)), .int ((S1 1 0) 4 1 0)]))], (w_X6 ad (0 + 1 + 1) cs ((S1 1 0) 0)), (w_X1 ad (0 + 1 + 6) cs ((S1 1 0) 1)), (w_X4 ad (0 + 1 + 13) cs ((S1 1 0) 2)), (w_X8 ad (0 + 1 + 23) cs ((S1 1 0) 3)), [((ad (0 + 1 + 27)), .inl (cs 0, 3, .inl ((S1 1 0) 4 0)))], (w_X5 ad (0 + 29) cs (S1 1 1)), (w_X5 ad (0 + 57) cs (S1 1 2)), (w_X3 ad (0 + 85) cs (S1 0)), (w_X2 ad (0 + 199) cs (S1 1 3 0)), (w_X7 ad (0 + 202) cs en (S1 1 3 1))]) := hD
  refine cl_Vi (As := [.int p1]) (rest := []) (L := [[((ad 0), .inr (8, [.ref (ad (0 + 1)), .ref (ad (0 + 29)), .ref (ad (0 + 57)), .int (S1 1 3 2 0 0), .ref (ad (0 + 85)), .ref (ad (0 + 199)), .ref (ad (0 + 202))]))], [((ad (0 + 1)), .inr (4, [.ref (ad (0 + 1 + 1)), .ref (ad (0 + 1 + 6)), .ref (ad (0 + 1 + 13)), .ref (ad (0 + 1 + 23)), .ref (ad (0 + 1 + 27)), .int ((S1 1 0) 4 1 0)]))], (w_X6 ad (0 + 1 + 1) cs ((S1 1 0) 0)), (w_X1 ad (0 + 1 + 6) cs ((S1 1 0) 1)), (w_X4 ad (0 + 1 + 13) cs ((S1 1 0) 2)), (w_X8 ad (0 + 1 + 23) cs ((S1 1 0) 3)), [((ad (0 + 1 + 27)), .inl (cs 0, 3, .inl ((S1 1 0) 4 0)))], (w_X5 ad (0 + 29) cs (S1 1 1)), (w_X5 ad (0 + 57) cs (S1 1 2)), (w_X3 ad (0 + 85) cs (S1 0)), (w_X2 ad (0 + 199) cs (S1 1 3 0)), (w_X7 ad (0 + 202) cs en (S1 1 3 1))]) (L' := [[((ad 0), .inr (8, [.ref (ad (0 + 1)), .ref (ad (0 + 29)), .ref (ad (0 + 57)), .int (S1 1 3 2 0 0), .ref (ad (0 + 85)), .ref (ad (0 + 199)), .ref (ad (0 + 202))]))], [((ad (0 + 1)), .inr (4, [.ref (ad (0 + 1 + 1)), .ref (ad (0 + 1 + 6)), .ref (ad (0 + 1 + 13)), .ref (ad (0 + 1 + 23)), .ref (ad (0 + 1 + 27)), .int ((S1 1 0) 4 1 0)]))], (w_X6 ad (0 + 1 + 1) cs ((S1 1 0) 0)), (w_X1 ad (0 + 1 + 6) cs ((S1 1 0) 1)), (w_X4 ad (0 + 1 + 13) cs ((S1 1 0) 2)), (w_X8 ad (0 + 1 + 23) cs ((S1 1 0) 3)), [((ad (0 + 1 + 27)), .inl (cs 0, 3, .inl ((S1 1 0) 4 0)))], (w_X5 ad (0 + 29) cs (S1 1 1)), (w_X5 ad (0 + 57) cs (S1 1 2)), (w_X3 ad (0 + 85) cs (S1 0)), (w_X2 ad (0 + 199) cs (S1 1 3 0)), (w_X7 ad (0 + 202) cs en (S1 1 3 1))]) (Wc := [(w_X1 ad (0 + 1 + 6) cs ((S1 1 0) 1))]) (Wc' := [(w_X1 ad (0 + 1 + 6) cs (S1 1 0 1))]) (is := [3]) (js := [0, 1, 2, 4, 5, 6, 7, 8, 9, 10, 11]) ⟨hx, hb, hml, hown, hts⟩ (k_X1_has l dC dI cs ad (0 + 1 + 6) s.heap.size (S1 1 0 1) p1 q8 gq8) (cwV 1 hts gX10_bicycleOf_X1_has rfl rfl rfl cd_X1_has ⟨Nat.le_of_ble_eq_true rfl, Nat.le_of_ble_eq_true rfl⟩) hK hP hD hS hA ⟨rfl, rfl, rfl, rfl, rfl, rfl⟩ (jn_nd (is := [3]) hD rfl rfl) 7 0 rfl rfl rfl rfl rfl hl.1 (Nat.le_of_ble_eq_true rfl) dX10_bicycleOf_8 (fun H8 locs8 hP' hD' hS' => ?_)
  replace hS := hS'
  replace hP : va_P (dC, dI) vwCl (fl [(w_X10 ad (0) cs en S1)]) H8 := hP'
  replace hD : va_D A (fl [(w_X10 ad (0) cs en S1)]) := hD'
  clear hP' hD' hS'
  refine lv_if_ne (tgt := 16) hx hb dX10_bicycleOf_11 (by decide) (fun c11 => ?_) (fun c11 => ?_)
  · replace hR := it_f hR c11
    refine lv_iload_n hx hb dX10_bicycleOf_16 rfl (lv_at hl 2 rfl) ?_
    by_cases c17_0 : p2 = 0
    · replace hR := it_t hR c17_0
      refine lv_tableIn (off := 35) (tgt := 52) hx hb dX10_bicycleOf_17 (by rw [c17_0]; decide) (by rw [c17_0]; decide) (by rw [c17_0]; rfl) (by decide) ?_
      refine lv_aload_n hx hb dX10_bicycleOf_52 rfl (lv_at hl 0 rfl) ?_
      refine va_get (D := (dC, dI)) (ci := 8) (v := .ref (ad (0 + 1))) (C := RX10) (T := TX10) (N := 7) hx hb hts hinX10 hown hK hP 0 rfl rfl 0 (by decide) hF10 (fun _ h9 => h9) rfl dX10_bicycleOf_53 ?_
      refine va_get (D := (dC, dI)) (ci := 4) (v := .ref (ad (0 + 1 + 6))) (C := RX5) (T := TX5) (N := 6) hx hb hts hinX5 hown hK hP 1 rfl rfl 1 (by decide) hF115 (fun _ h9 => h9) rfl dX10_bicycleOf_56 ?_
      refine va_get (D := (dC, dI)) (ci := 0) (v := .ref (ad (0 + 1 + 6 + 1))) (C := RX1) (T := TX1) (N := 7) hx hb hts hinX1 hown hK hP 7 rfl rfl 1 (by decide) hF138 (fun _ h9 => h9) rfl dX10_bicycleOf_59 ?_
      refine lv_iload_n hx hb dX10_bicycleOf_62 rfl (lv_at hl 1 rfl) ?_
      replace hR := gi_e hR
      obtain ⟨i63, hR⟩ := hR
      refine va_iald hx hb hK hP 8 0 rfl rfl i63 dX10_bicycleOf_63 ?_
      replace hR := Option.some.inj hR
      have e9 := hR
      exact W.iret hx hb hr (fun t ht hW => ⟨⟨_, (), rfl, e9, by rw [ht]; exact hP, va_K.moved hW.alike hK, hD⟩, hS.F ht⟩) hS.2.2 dX10_bicycleOf_64
    · replace hR := it_f hR c17_0
      by_cases c17_1 : p2 = 1
      · replace hR := it_t hR c17_1
        refine lv_tableIn (off := 48) (tgt := 65) hx hb dX10_bicycleOf_17 (by rw [c17_1]; decide) (by rw [c17_1]; decide) (by rw [c17_1]; rfl) (by decide) ?_
        refine lv_aload_n hx hb dX10_bicycleOf_65 rfl (lv_at hl 0 rfl) ?_
        refine va_get (D := (dC, dI)) (ci := 8) (v := .ref (ad (0 + 1))) (C := RX10) (T := TX10) (N := 7) hx hb hts hinX10 hown hK hP 0 rfl rfl 0 (by decide) hF10 (fun _ h9 => h9) rfl dX10_bicycleOf_66 ?_
        refine va_get (D := (dC, dI)) (ci := 4) (v := .ref (ad (0 + 1 + 6))) (C := RX5) (T := TX5) (N := 6) hx hb hts hinX5 hown hK hP 1 rfl rfl 1 (by decide) hF115 (fun _ h9 => h9) rfl dX10_bicycleOf_69 ?_
        refine lv_iload_n hx hb dX10_bicycleOf_72 rfl (lv_at hl 1 rfl) ?_
        replace hR := bd_e hR
        obtain ⟨q73, gq73, hR⟩ := hR
        replace hP : va_P (dC, dI) vwCl (fl [[((ad 0), .inr (8, [.ref (ad (0 + 1)), .ref (ad (0 + 29)), .ref (ad (0 + 57)), .int (S1 1 3 2 0 0), .ref (ad (0 + 85)), .ref (ad (0 + 199)), .ref (ad (0 + 202))]))], [((ad (0 + 1)), .inr (4, [.ref (ad (0 + 1 + 1)), .ref (ad (0 + 1 + 6)), .ref (ad (0 + 1 + 13)), .ref (ad (0 + 1 + 23)), .ref (ad (0 + 1 + 27)), .int ((S1 1 0) 4 1 0)]))], (w_X6 ad (0 + 1 + 1) cs ((S1 1 0) 0)), (w_X1 ad (0 + 1 + 6) cs ((S1 1 0) 1)), (w_X4 ad (0 + 1 + 13) cs ((S1 1 0) 2)), (w_X8 ad (0 + 1 + 23) cs ((S1 1 0) 3)), [((ad (0 + 1 + 27)), .inl (cs 0, 3, .inl ((S1 1 0) 4 0)))], (w_X5 ad (0 + 29) cs (S1 1 1)), (w_X5 ad (0 + 57) cs (S1 1 2)), (w_X3 ad (0 + 85) cs (S1 0)), (w_X2 ad (0 + 199) cs (S1 1 3 0)), (w_X7 ad (0 + 202) cs en (S1 1 3 1))]) H8 := hP
        replace hD : va_D A (fl [[((ad 0), .inr (8, [.ref (ad (0 + 1)), .ref (ad (0 + 29)), .ref (ad (0 + 57)), .int (S1 1 3 2 0 0), .ref (ad (0 + 85)), .ref (ad (0 + 199)), .ref (ad (0 + 202))]))], [((ad (0 + 1)), .inr (4, [.ref (ad (0 + 1 + 1)), .ref (ad (0 + 1 + 6)), .ref (ad (0 + 1 + 13)), .ref (ad (0 + 1 + 23)), .ref (ad (0 + 1 + 27)), .int ((S1 1 0) 4 1 0)]))], (w_X6 ad (0 + 1 + 1) cs ((S1 1 0) 0)), (w_X1 ad (0 + 1 + 6) cs ((S1 1 0) 1)), (w_X4 ad (0 + 1 + 13) cs ((S1 1 0) 2)), (w_X8 ad (0 + 1 + 23) cs ((S1 1 0) 3)), [((ad (0 + 1 + 27)), .inl (cs 0, 3, .inl ((S1 1 0) 4 0)))], (w_X5 ad (0 + 29) cs (S1 1 1)), (w_X5 ad (0 + 57) cs (S1 1 2)), (w_X3 ad (0 + 85) cs (S1 0)), (w_X2 ad (0 + 199) cs (S1 1 3 0)), (w_X7 ad (0 + 202) cs en (S1 1 3 1))]) := hD
        refine cl_Vi (As := [.int p1]) (rest := []) (L := [[((ad 0), .inr (8, [.ref (ad (0 + 1)), .ref (ad (0 + 29)), .ref (ad (0 + 57)), .int (S1 1 3 2 0 0), .ref (ad (0 + 85)), .ref (ad (0 + 199)), .ref (ad (0 + 202))]))], [((ad (0 + 1)), .inr (4, [.ref (ad (0 + 1 + 1)), .ref (ad (0 + 1 + 6)), .ref (ad (0 + 1 + 13)), .ref (ad (0 + 1 + 23)), .ref (ad (0 + 1 + 27)), .int ((S1 1 0) 4 1 0)]))], (w_X6 ad (0 + 1 + 1) cs ((S1 1 0) 0)), (w_X1 ad (0 + 1 + 6) cs ((S1 1 0) 1)), (w_X4 ad (0 + 1 + 13) cs ((S1 1 0) 2)), (w_X8 ad (0 + 1 + 23) cs ((S1 1 0) 3)), [((ad (0 + 1 + 27)), .inl (cs 0, 3, .inl ((S1 1 0) 4 0)))], (w_X5 ad (0 + 29) cs (S1 1 1)), (w_X5 ad (0 + 57) cs (S1 1 2)), (w_X3 ad (0 + 85) cs (S1 0)), (w_X2 ad (0 + 199) cs (S1 1 3 0)), (w_X7 ad (0 + 202) cs en (S1 1 3 1))]) (L' := [[((ad 0), .inr (8, [.ref (ad (0 + 1)), .ref (ad (0 + 29)), .ref (ad (0 + 57)), .int (S1 1 3 2 0 0), .ref (ad (0 + 85)), .ref (ad (0 + 199)), .ref (ad (0 + 202))]))], [((ad (0 + 1)), .inr (4, [.ref (ad (0 + 1 + 1)), .ref (ad (0 + 1 + 6)), .ref (ad (0 + 1 + 13)), .ref (ad (0 + 1 + 23)), .ref (ad (0 + 1 + 27)), .int ((S1 1 0) 4 1 0)]))], (w_X6 ad (0 + 1 + 1) cs ((S1 1 0) 0)), (w_X1 ad (0 + 1 + 6) cs ((S1 1 0) 1)), (w_X4 ad (0 + 1 + 13) cs ((S1 1 0) 2)), (w_X8 ad (0 + 1 + 23) cs ((S1 1 0) 3)), [((ad (0 + 1 + 27)), .inl (cs 0, 3, .inl ((S1 1 0) 4 0)))], (w_X5 ad (0 + 29) cs (S1 1 1)), (w_X5 ad (0 + 57) cs (S1 1 2)), (w_X3 ad (0 + 85) cs (S1 0)), (w_X2 ad (0 + 199) cs (S1 1 3 0)), (w_X7 ad (0 + 202) cs en (S1 1 3 1))]) (Wc := [(w_X1 ad (0 + 1 + 6) cs ((S1 1 0) 1))]) (Wc' := [(w_X1 ad (0 + 1 + 6) cs (S1 1 0 1))]) (is := [3]) (js := [0, 1, 2, 4, 5, 6, 7, 8, 9, 10, 11]) ⟨hx, hb, hml, hown, hts⟩ (k_X1_holderOrNotFound l dC dI cs ad (0 + 1 + 6) H8.size (S1 1 0 1) p1 q73 gq73) (cwV 1 hts gX10_bicycleOf_X1_holderOrNotFound rfl rfl rfl cd_X1_holderOrNotFound ⟨Nat.le_of_ble_eq_true rfl, Nat.le_of_ble_eq_true rfl⟩) hK hP hD hS hA ⟨rfl, rfl, rfl, rfl, rfl, rfl⟩ (jn_nd (is := [3]) hD rfl rfl) 7 0 rfl rfl rfl rfl rfl hl.1 (Nat.le_of_ble_eq_true rfl) dX10_bicycleOf_73 (fun H73 locs73 hP' hD' hS' => ?_)
        replace hS := hS'
        replace hP : va_P (dC, dI) vwCl (fl [(w_X10 ad (0) cs en S1)]) H73 := hP'
        replace hD : va_D A (fl [(w_X10 ad (0) cs en S1)]) := hD'
        clear hP' hD' hS'
        replace hR := Option.some.inj hR
        have e9 := hR
        exact W.iret hx hb hr (fun t ht hW => ⟨⟨_, (), rfl, e9, by rw [ht]; exact hP, va_K.moved hW.alike hK, hD⟩, hS.F ht⟩) hS.2.2 dX10_bicycleOf_76
      · replace hR := it_f hR c17_1
        by_cases c17_2 : p2 = 2
        · replace hR := it_t hR c17_2
          refine lv_tableIn (off := 60) (tgt := 77) hx hb dX10_bicycleOf_17 (by rw [c17_2]; decide) (by rw [c17_2]; decide) (by rw [c17_2]; rfl) (by decide) ?_
          refine lv_aload_n hx hb dX10_bicycleOf_77 rfl (lv_at hl 0 rfl) ?_
          refine va_get (D := (dC, dI)) (ci := 8) (v := .ref (ad (0 + 1))) (C := RX10) (T := TX10) (N := 7) hx hb hts hinX10 hown hK hP 0 rfl rfl 0 (by decide) hF10 (fun _ h9 => h9) rfl dX10_bicycleOf_78 ?_
          refine va_get (D := (dC, dI)) (ci := 4) (v := .ref (ad (0 + 1 + 6))) (C := RX5) (T := TX5) (N := 6) hx hb hts hinX5 hown hK hP 1 rfl rfl 1 (by decide) hF115 (fun _ h9 => h9) rfl dX10_bicycleOf_81 ?_
          refine va_get (D := (dC, dI)) (ci := 0) (v := .ref (ad (0 + 1 + 6 + 3))) (C := RX1) (T := TX1) (N := 7) hx hb hts hinX1 hown hK hP 7 rfl rfl 3 (by decide) hF144 (fun _ h9 => h9) rfl dX10_bicycleOf_84 ?_
          refine lv_iload_n hx hb dX10_bicycleOf_87 rfl (lv_at hl 1 rfl) ?_
          replace hR := gi_e hR
          obtain ⟨i88, hR⟩ := hR
          refine va_iald hx hb hK hP 10 0 rfl rfl i88 dX10_bicycleOf_88 ?_
          replace hR := Option.some.inj hR
          have e9 := hR
          exact W.iret hx hb hr (fun t ht hW => ⟨⟨_, (), rfl, e9, by rw [ht]; exact hP, va_K.moved hW.alike hK, hD⟩, hS.F ht⟩) hS.2.2 dX10_bicycleOf_89
        · replace hR := it_f hR c17_2
          by_cases c17_3 : p2 = 3
          · replace hR := it_t hR c17_3
            refine lv_tableIn (off := 73) (tgt := 90) hx hb dX10_bicycleOf_17 (by rw [c17_3]; decide) (by rw [c17_3]; decide) (by rw [c17_3]; rfl) (by decide) ?_
            refine lv_aload_n hx hb dX10_bicycleOf_90 rfl (lv_at hl 0 rfl) ?_
            refine va_get (D := (dC, dI)) (ci := 8) (v := .ref (ad (0 + 1))) (C := RX10) (T := TX10) (N := 7) hx hb hts hinX10 hown hK hP 0 rfl rfl 0 (by decide) hF10 (fun _ h9 => h9) rfl dX10_bicycleOf_91 ?_
            refine va_get (D := (dC, dI)) (ci := 4) (v := .ref (ad (0 + 1 + 6))) (C := RX5) (T := TX5) (N := 6) hx hb hts hinX5 hown hK hP 1 rfl rfl 1 (by decide) hF115 (fun _ h9 => h9) rfl dX10_bicycleOf_94 ?_
            refine va_get (D := (dC, dI)) (ci := 0) (v := .ref (ad (0 + 1 + 6 + 4))) (C := RX1) (T := TX1) (N := 7) hx hb hts hinX1 hown hK hP 7 rfl rfl 4 (by decide) hF147 (fun _ h9 => h9) rfl dX10_bicycleOf_97 ?_
            refine lv_iload_n hx hb dX10_bicycleOf_100 rfl (lv_at hl 1 rfl) ?_
            replace hR := gi_e hR
            obtain ⟨i101, hR⟩ := hR
            refine va_iald hx hb hK hP 11 0 rfl rfl i101 dX10_bicycleOf_101 ?_
            replace hR := Option.some.inj hR
            have e9 := hR
            exact W.iret hx hb hr (fun t ht hW => ⟨⟨_, (), rfl, e9, by rw [ht]; exact hP, va_K.moved hW.alike hK, hD⟩, hS.F ht⟩) hS.2.2 dX10_bicycleOf_102
          · replace hR := it_f hR c17_3
            by_cases c17_4 : p2 = 4
            · replace hR := it_t hR c17_4
              refine lv_tableIn (off := 86) (tgt := 103) hx hb dX10_bicycleOf_17 (by rw [c17_4]; decide) (by rw [c17_4]; decide) (by rw [c17_4]; rfl) (by decide) ?_
              refine lv_aload_n hx hb dX10_bicycleOf_103 rfl (lv_at hl 0 rfl) ?_
              refine va_get (D := (dC, dI)) (ci := 8) (v := .ref (ad (0 + 1))) (C := RX10) (T := TX10) (N := 7) hx hb hts hinX10 hown hK hP 0 rfl rfl 0 (by decide) hF10 (fun _ h9 => h9) rfl dX10_bicycleOf_104 ?_
              refine va_get (D := (dC, dI)) (ci := 4) (v := .ref (ad (0 + 1 + 6))) (C := RX5) (T := TX5) (N := 6) hx hb hts hinX5 hown hK hP 1 rfl rfl 1 (by decide) hF115 (fun _ h9 => h9) rfl dX10_bicycleOf_107 ?_
              refine va_get (D := (dC, dI)) (ci := 0) (v := .ref (ad (0 + 1 + 6 + 5))) (C := RX1) (T := TX1) (N := 7) hx hb hts hinX1 hown hK hP 7 rfl rfl 5 (by decide) hF150 (fun _ h9 => h9) rfl dX10_bicycleOf_110 ?_
              refine lv_iload_n hx hb dX10_bicycleOf_113 rfl (lv_at hl 1 rfl) ?_
              replace hR := gi_e hR
              obtain ⟨i114, hR⟩ := hR
              refine va_iald hx hb hK hP 12 0 rfl rfl i114 dX10_bicycleOf_114 ?_
              replace hR := Option.some.inj hR
              have e9 := hR
              exact W.iret hx hb hr (fun t ht hW => ⟨⟨_, (), rfl, e9, by rw [ht]; exact hP, va_K.moved hW.alike hK, hD⟩, hS.F ht⟩) hS.2.2 dX10_bicycleOf_115
            · replace hR := it_f hR c17_4
              refine lv_tableOut (tgt := 116) hx hb dX10_bicycleOf_17 (by have n0 := lv_neT (a := 0) c17_0 rfl; have n1 := lv_neT (a := 1) c17_1 rfl; have n2 := lv_neT (a := 2) c17_2 rfl; have n3 := lv_neT (a := 3) c17_3 rfl; have n4 := lv_neT (a := 4) c17_4 rfl; omega) (by decide) ?_
              refine lv_iconst (v := (-1)) hx hb dX10_bicycleOf_116 ic_m1 ?_
              replace hR := Option.some.inj hR
              have e9 := hR
              exact W.iret hx hb hr (fun t ht hW => ⟨⟨_, (), rfl, e9, by rw [ht]; exact hP, va_K.moved hW.alike hK, hD⟩, hS.F ht⟩) hS.2.2 dX10_bicycleOf_117
  · replace hR := it_t hR c11
    refine lv_iconst (v := (-1)) hx hb dX10_bicycleOf_14 ic_m1 ?_
    replace hR := Option.some.inj hR
    have e9 := hR
    exact W.iret hx hb hr (fun t ht hW => ⟨⟨_, (), rfl, e9, by rw [ht]; exact hP, va_K.moved hW.alike hK, hD⟩, hS.F ht⟩) hS.2.2 dX10_bicycleOf_15
set_option maxHeartbeats 8000000 in
set_option maxRecDepth 100000 in
theorem k_X10_rideOf (l : Launch) (dC : Nat → ClassId) (dI : Nat → Nat → Nat) (cs : Nat → ClassId) (ad : Nat → Nat) (en : Nat → Nat) (sz : Nat) (S1 : T5) (p1 : Int32) (p2 : Int32) (r : Int32) (hR : fX10_rideOf S1 p1 p2 = some r) : Met l yX10_rideOf wsX10_rideOf ({ frames := 3, cells := 0, slots := 0, locals := 66 } : Room) (va_Pc [.ref (ad 0), .int p1, .int p2] (pW dC dI (tyL cs) (fl [(w_X10 ad (0) cs en S1)]) sz)) (QI dC dI (tyL cs) (va_A (fl [(w_X10 ad (0) cs en S1)]) sz) (fl [(w_X10 ad (0) cs en S1)]) r) 0 0 (va_A (fl [(w_X10 ad (0) cs en S1)]) sz) := by
  refine mt_of (own := RX10) (cc := cX10_rideOf) (maxL := 3) (ret := (some .int)) (Qc := fun A => QI dC dI (tyL cs) A (fl [(w_X10 ad (0) cs en S1)]) r) rfl (by decide) rfl (Nat.le_of_ble_eq_true rfl) (fun p e s m below meth c A ls hsz hx hb hr hts hown hlocks hml hA hK hP hD hS hl => ?_)
  subst hsz
  have hl : lv_has ls 3 [(0, .ref (ad 0)), (1, .int p1), (2, .int p2)] := hl
  have hF10 := hts (.fieldLink RX10 10 "DockedBikes" "now" "LDockedBikes$Road;") (List.mem_of_getElem? (i := 1) rfl)
  have hF153 := hts (.fieldLink RX10 153 "DockedBikes$Road" "riders" "LDockedBikes$Riders;") (List.mem_of_getElem? (i := 2) rfl)
  have hF172 := hts (.fieldLink RX10 172 "DockedBikes$Road" "time" "I") (List.mem_of_getElem? (i := 4) rfl)
  have hF279 := hts (.fieldLink RX10 279 "DockedBikes$Riders" "bicycle" "[I") (List.mem_of_getElem? (i := 3) rfl)
  have hF285 := hts (.fieldLink RX10 285 "DockedBikes$Riders" "free" "[I") (List.mem_of_getElem? (i := 5) rfl)
  have hinX10 : ∀ w ∈ wsX100, w ∈ wsX10_rideOf := by decide +kernel
  have hinX4 : ∀ w ∈ wsX40, w ∈ wsX10_rideOf := by decide +kernel
  have hinX5 : ∀ w ∈ wsX50, w ∈ wsX10_rideOf := by decide +kernel
  refine lv_iload_n hx hb dX10_rideOf_0 rfl (lv_at hl 2 rfl) ?_
  by_cases c1_0 : p2 = 2
  · replace hR := it_t hR c1_0
    refine lv_tableIn (off := 27) (tgt := 28) hx hb dX10_rideOf_1 (by rw [c1_0]; decide) (by rw [c1_0]; decide) (by rw [c1_0]; rfl) (by decide) ?_
    refine lv_aload_n hx hb dX10_rideOf_28 rfl (lv_at hl 0 rfl) ?_
    refine va_get (D := (dC, dI)) (ci := 8) (v := .ref (ad (0 + 1))) (C := RX10) (T := TX10) (N := 7) hx hb hts hinX10 hown hK hP 0 rfl rfl 0 (by decide) hF10 (fun _ h9 => h9) rfl dX10_rideOf_29 ?_
    refine va_get (D := (dC, dI)) (ci := 4) (v := .ref (ad (0 + 1 + 13))) (C := RX5) (T := TX5) (N := 6) hx hb hts hinX5 hown hK hP 1 rfl rfl 2 (by decide) hF153 (fun _ h9 => h9) rfl dX10_rideOf_32 ?_
    refine va_get (D := (dC, dI)) (ci := 3) (v := .ref (ad (0 + 1 + 13 + 5))) (C := RX4) (T := TX4) (N := 10) hx hb hts hinX4 hown hK hP 14 rfl rfl 5 (by decide) hF279 (fun _ h9 => h9) rfl dX10_rideOf_35 ?_
    refine lv_iload_n hx hb dX10_rideOf_38 rfl (lv_at hl 1 rfl) ?_
    replace hR := gi_e hR
    obtain ⟨i39, hR⟩ := hR
    refine va_iald hx hb hK hP 19 0 rfl rfl i39 dX10_rideOf_39 ?_
    replace hR := Option.some.inj hR
    have e9 := hR
    exact W.iret hx hb hr (fun t ht hW => ⟨⟨_, (), rfl, e9, by rw [ht]; exact hP, va_K.moved hW.alike hK, hD⟩, hS.F ht⟩) hS.2.2 dX10_rideOf_40
  · replace hR := it_f hR c1_0
    by_cases c1_1 : p2 = 3
    · replace hR := it_t hR c1_1
      refine lv_tableIn (off := 40) (tgt := 41) hx hb dX10_rideOf_1 (by rw [c1_1]; decide) (by rw [c1_1]; decide) (by rw [c1_1]; rfl) (by decide) ?_
      refine lv_aload_n hx hb dX10_rideOf_41 rfl (lv_at hl 0 rfl) ?_
      refine va_get (D := (dC, dI)) (ci := 8) (v := .ref (ad (0 + 1))) (C := RX10) (T := TX10) (N := 7) hx hb hts hinX10 hown hK hP 0 rfl rfl 0 (by decide) hF10 (fun _ h9 => h9) rfl dX10_rideOf_42 ?_
      refine va_get (D := (dC, dI)) (ci := 4) (v := .ref (ad (0 + 1 + 13))) (C := RX5) (T := TX5) (N := 6) hx hb hts hinX5 hown hK hP 1 rfl rfl 2 (by decide) hF153 (fun _ h9 => h9) rfl dX10_rideOf_45 ?_
      refine lv_iload_n hx hb dX10_rideOf_48 rfl (lv_at hl 1 rfl) ?_
      refine lv_aload_n hx hb dX10_rideOf_49 rfl (lv_at hl 0 rfl) ?_
      refine va_get (D := (dC, dI)) (ci := 8) (v := .ref (ad (0 + 1))) (C := RX10) (T := TX10) (N := 7) hx hb hts hinX10 hown hK hP 0 rfl rfl 0 (by decide) hF10 (fun _ h9 => h9) rfl dX10_rideOf_50 ?_
      refine va_get (D := (dC, dI)) (ci := 4) (v := .int (S1 1 0 4 1 0)) (C := RX5) (T := TX5) (N := 6) hx hb hts hinX5 hown hK hP 1 rfl rfl 5 (by decide) hF172 (fun _ h9 => h9) rfl dX10_rideOf_53 ?_
      replace hR := bd_e hR
      obtain ⟨q56, gq56, hR⟩ := hR
      replace hP : va_P (dC, dI) vwCl (fl [[((ad 0), .inr (8, [.ref (ad (0 + 1)), .ref (ad (0 + 29)), .ref (ad (0 + 57)), .int (S1 1 3 2 0 0), .ref (ad (0 + 85)), .ref (ad (0 + 199)), .ref (ad (0 + 202))]))], [((ad (0 + 1)), .inr (4, [.ref (ad (0 + 1 + 1)), .ref (ad (0 + 1 + 6)), .ref (ad (0 + 1 + 13)), .ref (ad (0 + 1 + 23)), .ref (ad (0 + 1 + 27)), .int ((S1 1 0) 4 1 0)]))], (w_X6 ad (0 + 1 + 1) cs ((S1 1 0) 0)), (w_X1 ad (0 + 1 + 6) cs ((S1 1 0) 1)), (w_X4 ad (0 + 1 + 13) cs ((S1 1 0) 2)), (w_X8 ad (0 + 1 + 23) cs ((S1 1 0) 3)), [((ad (0 + 1 + 27)), .inl (cs 0, 3, .inl ((S1 1 0) 4 0)))], (w_X5 ad (0 + 29) cs (S1 1 1)), (w_X5 ad (0 + 57) cs (S1 1 2)), (w_X3 ad (0 + 85) cs (S1 0)), (w_X2 ad (0 + 199) cs (S1 1 3 0)), (w_X7 ad (0 + 202) cs en (S1 1 3 1))]) s.heap := hP
      replace hD : va_D A (fl [[((ad 0), .inr (8, [.ref (ad (0 + 1)), .ref (ad (0 + 29)), .ref (ad (0 + 57)), .int (S1 1 3 2 0 0), .ref (ad (0 + 85)), .ref (ad (0 + 199)), .ref (ad (0 + 202))]))], [((ad (0 + 1)), .inr (4, [.ref (ad (0 + 1 + 1)), .ref (ad (0 + 1 + 6)), .ref (ad (0 + 1 + 13)), .ref (ad (0 + 1 + 23)), .ref (ad (0 + 1 + 27)), .int ((S1 1 0) 4 1 0)]))], (w_X6 ad (0 + 1 + 1) cs ((S1 1 0) 0)), (w_X1 ad (0 + 1 + 6) cs ((S1 1 0) 1)), (w_X4 ad (0 + 1 + 13) cs ((S1 1 0) 2)), (w_X8 ad (0 + 1 + 23) cs ((S1 1 0) 3)), [((ad (0 + 1 + 27)), .inl (cs 0, 3, .inl ((S1 1 0) 4 0)))], (w_X5 ad (0 + 29) cs (S1 1 1)), (w_X5 ad (0 + 57) cs (S1 1 2)), (w_X3 ad (0 + 85) cs (S1 0)), (w_X2 ad (0 + 199) cs (S1 1 3 0)), (w_X7 ad (0 + 202) cs en (S1 1 3 1))]) := hD
      refine cl_Vi (As := [.int p1, .int (S1 1 0 4 1 0)]) (rest := []) (L := [[((ad 0), .inr (8, [.ref (ad (0 + 1)), .ref (ad (0 + 29)), .ref (ad (0 + 57)), .int (S1 1 3 2 0 0), .ref (ad (0 + 85)), .ref (ad (0 + 199)), .ref (ad (0 + 202))]))], [((ad (0 + 1)), .inr (4, [.ref (ad (0 + 1 + 1)), .ref (ad (0 + 1 + 6)), .ref (ad (0 + 1 + 13)), .ref (ad (0 + 1 + 23)), .ref (ad (0 + 1 + 27)), .int ((S1 1 0) 4 1 0)]))], (w_X6 ad (0 + 1 + 1) cs ((S1 1 0) 0)), (w_X1 ad (0 + 1 + 6) cs ((S1 1 0) 1)), (w_X4 ad (0 + 1 + 13) cs ((S1 1 0) 2)), (w_X8 ad (0 + 1 + 23) cs ((S1 1 0) 3)), [((ad (0 + 1 + 27)), .inl (cs 0, 3, .inl ((S1 1 0) 4 0)))], (w_X5 ad (0 + 29) cs (S1 1 1)), (w_X5 ad (0 + 57) cs (S1 1 2)), (w_X3 ad (0 + 85) cs (S1 0)), (w_X2 ad (0 + 199) cs (S1 1 3 0)), (w_X7 ad (0 + 202) cs en (S1 1 3 1))]) (L' := [[((ad 0), .inr (8, [.ref (ad (0 + 1)), .ref (ad (0 + 29)), .ref (ad (0 + 57)), .int (S1 1 3 2 0 0), .ref (ad (0 + 85)), .ref (ad (0 + 199)), .ref (ad (0 + 202))]))], [((ad (0 + 1)), .inr (4, [.ref (ad (0 + 1 + 1)), .ref (ad (0 + 1 + 6)), .ref (ad (0 + 1 + 13)), .ref (ad (0 + 1 + 23)), .ref (ad (0 + 1 + 27)), .int ((S1 1 0) 4 1 0)]))], (w_X6 ad (0 + 1 + 1) cs ((S1 1 0) 0)), (w_X1 ad (0 + 1 + 6) cs ((S1 1 0) 1)), (w_X4 ad (0 + 1 + 13) cs ((S1 1 0) 2)), (w_X8 ad (0 + 1 + 23) cs ((S1 1 0) 3)), [((ad (0 + 1 + 27)), .inl (cs 0, 3, .inl ((S1 1 0) 4 0)))], (w_X5 ad (0 + 29) cs (S1 1 1)), (w_X5 ad (0 + 57) cs (S1 1 2)), (w_X3 ad (0 + 85) cs (S1 0)), (w_X2 ad (0 + 199) cs (S1 1 3 0)), (w_X7 ad (0 + 202) cs en (S1 1 3 1))]) (Wc := [(w_X4 ad (0 + 1 + 13) cs ((S1 1 0) 2))]) (Wc' := [(w_X4 ad (0 + 1 + 13) cs (S1 1 0 2))]) (is := [4]) (js := [0, 1, 2, 3, 5, 6, 7, 8, 9, 10, 11]) ⟨hx, hb, hml, hown, hts⟩ (k_X4_rideMinutes l dC dI cs ad (0 + 1 + 13) s.heap.size (S1 1 0 2) p1 (S1 1 0 4 1 0) q56 gq56) (cwV 2 hts gX10_rideOf_X4_rideMinutes rfl rfl rfl cd_X4_rideMinutes ⟨Nat.le_of_ble_eq_true rfl, Nat.le_of_ble_eq_true rfl⟩) hK hP hD hS hA ⟨rfl, rfl, rfl, rfl, rfl, rfl⟩ (jn_nd (is := [4]) hD rfl rfl) 14 3 rfl rfl rfl rfl rfl hl.1 (Nat.le_of_ble_eq_true rfl) dX10_rideOf_56 (fun H56 locs56 hP' hD' hS' => ?_)
      replace hS := hS'
      replace hP : va_P (dC, dI) vwCl (fl [(w_X10 ad (0) cs en S1)]) H56 := hP'
      replace hD : va_D A (fl [(w_X10 ad (0) cs en S1)]) := hD'
      clear hP' hD' hS'
      replace hR := Option.some.inj hR
      have e9 := hR
      exact W.iret hx hb hr (fun t ht hW => ⟨⟨_, (), rfl, e9, by rw [ht]; exact hP, va_K.moved hW.alike hK, hD⟩, hS.F ht⟩) hS.2.2 dX10_rideOf_59
    · replace hR := it_f hR c1_1
      by_cases c1_2 : p2 = 4
      · replace hR := it_t hR c1_2
        refine lv_tableIn (off := 59) (tgt := 60) hx hb dX10_rideOf_1 (by rw [c1_2]; decide) (by rw [c1_2]; decide) (by rw [c1_2]; rfl) (by decide) ?_
        refine lv_aload_n hx hb dX10_rideOf_60 rfl (lv_at hl 0 rfl) ?_
        refine va_get (D := (dC, dI)) (ci := 8) (v := .ref (ad (0 + 1))) (C := RX10) (T := TX10) (N := 7) hx hb hts hinX10 hown hK hP 0 rfl rfl 0 (by decide) hF10 (fun _ h9 => h9) rfl dX10_rideOf_61 ?_
        refine va_get (D := (dC, dI)) (ci := 4) (v := .ref (ad (0 + 1 + 13))) (C := RX5) (T := TX5) (N := 6) hx hb hts hinX5 hown hK hP 1 rfl rfl 2 (by decide) hF153 (fun _ h9 => h9) rfl dX10_rideOf_64 ?_
        refine va_get (D := (dC, dI)) (ci := 3) (v := .ref (ad (0 + 1 + 13 + 7))) (C := RX4) (T := TX4) (N := 10) hx hb hts hinX4 hown hK hP 14 rfl rfl 7 (by decide) hF285 (fun _ h9 => h9) rfl dX10_rideOf_67 ?_
        refine lv_iload_n hx hb dX10_rideOf_70 rfl (lv_at hl 1 rfl) ?_
        replace hR := gi_e hR
        obtain ⟨i71, hR⟩ := hR
        refine va_iald hx hb hK hP 21 0 rfl rfl i71 dX10_rideOf_71 ?_
        replace hR := Option.some.inj hR
        have e9 := hR
        exact W.iret hx hb hr (fun t ht hW => ⟨⟨_, (), rfl, e9, by rw [ht]; exact hP, va_K.moved hW.alike hK, hD⟩, hS.F ht⟩) hS.2.2 dX10_rideOf_72
      · replace hR := it_f hR c1_2
        refine lv_tableOut (tgt := 73) hx hb dX10_rideOf_1 (by have n0 := lv_neT (a := 2) c1_0 rfl; have n1 := lv_neT (a := 3) c1_1 rfl; have n2 := lv_neT (a := 4) c1_2 rfl; omega) (by decide) ?_
        refine lv_aload_n hx hb dX10_rideOf_73 rfl (lv_at hl 0 rfl) ?_
        refine va_get (D := (dC, dI)) (ci := 8) (v := .ref (ad (0 + 1))) (C := RX10) (T := TX10) (N := 7) hx hb hts hinX10 hown hK hP 0 rfl rfl 0 (by decide) hF10 (fun _ h9 => h9) rfl dX10_rideOf_74 ?_
        refine va_get (D := (dC, dI)) (ci := 4) (v := .ref (ad (0 + 1 + 13))) (C := RX5) (T := TX5) (N := 6) hx hb hts hinX5 hown hK hP 1 rfl rfl 2 (by decide) hF153 (fun _ h9 => h9) rfl dX10_rideOf_77 ?_
        refine lv_iload_n hx hb dX10_rideOf_80 rfl (lv_at hl 1 rfl) ?_
        refine lv_aload_n hx hb dX10_rideOf_81 rfl (lv_at hl 0 rfl) ?_
        refine va_get (D := (dC, dI)) (ci := 8) (v := .ref (ad (0 + 1))) (C := RX10) (T := TX10) (N := 7) hx hb hts hinX10 hown hK hP 0 rfl rfl 0 (by decide) hF10 (fun _ h9 => h9) rfl dX10_rideOf_82 ?_
        refine va_get (D := (dC, dI)) (ci := 4) (v := .int (S1 1 0 4 1 0)) (C := RX5) (T := TX5) (N := 6) hx hb hts hinX5 hown hK hP 1 rfl rfl 5 (by decide) hF172 (fun _ h9 => h9) rfl dX10_rideOf_85 ?_
        replace hR := bd_e hR
        obtain ⟨q88, gq88, hR⟩ := hR
        replace hP : va_P (dC, dI) vwCl (fl [[((ad 0), .inr (8, [.ref (ad (0 + 1)), .ref (ad (0 + 29)), .ref (ad (0 + 57)), .int (S1 1 3 2 0 0), .ref (ad (0 + 85)), .ref (ad (0 + 199)), .ref (ad (0 + 202))]))], [((ad (0 + 1)), .inr (4, [.ref (ad (0 + 1 + 1)), .ref (ad (0 + 1 + 6)), .ref (ad (0 + 1 + 13)), .ref (ad (0 + 1 + 23)), .ref (ad (0 + 1 + 27)), .int ((S1 1 0) 4 1 0)]))], (w_X6 ad (0 + 1 + 1) cs ((S1 1 0) 0)), (w_X1 ad (0 + 1 + 6) cs ((S1 1 0) 1)), (w_X4 ad (0 + 1 + 13) cs ((S1 1 0) 2)), (w_X8 ad (0 + 1 + 23) cs ((S1 1 0) 3)), [((ad (0 + 1 + 27)), .inl (cs 0, 3, .inl ((S1 1 0) 4 0)))], (w_X5 ad (0 + 29) cs (S1 1 1)), (w_X5 ad (0 + 57) cs (S1 1 2)), (w_X3 ad (0 + 85) cs (S1 0)), (w_X2 ad (0 + 199) cs (S1 1 3 0)), (w_X7 ad (0 + 202) cs en (S1 1 3 1))]) s.heap := hP
        replace hD : va_D A (fl [[((ad 0), .inr (8, [.ref (ad (0 + 1)), .ref (ad (0 + 29)), .ref (ad (0 + 57)), .int (S1 1 3 2 0 0), .ref (ad (0 + 85)), .ref (ad (0 + 199)), .ref (ad (0 + 202))]))], [((ad (0 + 1)), .inr (4, [.ref (ad (0 + 1 + 1)), .ref (ad (0 + 1 + 6)), .ref (ad (0 + 1 + 13)), .ref (ad (0 + 1 + 23)), .ref (ad (0 + 1 + 27)), .int ((S1 1 0) 4 1 0)]))], (w_X6 ad (0 + 1 + 1) cs ((S1 1 0) 0)), (w_X1 ad (0 + 1 + 6) cs ((S1 1 0) 1)), (w_X4 ad (0 + 1 + 13) cs ((S1 1 0) 2)), (w_X8 ad (0 + 1 + 23) cs ((S1 1 0) 3)), [((ad (0 + 1 + 27)), .inl (cs 0, 3, .inl ((S1 1 0) 4 0)))], (w_X5 ad (0 + 29) cs (S1 1 1)), (w_X5 ad (0 + 57) cs (S1 1 2)), (w_X3 ad (0 + 85) cs (S1 0)), (w_X2 ad (0 + 199) cs (S1 1 3 0)), (w_X7 ad (0 + 202) cs en (S1 1 3 1))]) := hD
        refine cl_Vi (As := [.int p1, .int (S1 1 0 4 1 0)]) (rest := []) (L := [[((ad 0), .inr (8, [.ref (ad (0 + 1)), .ref (ad (0 + 29)), .ref (ad (0 + 57)), .int (S1 1 3 2 0 0), .ref (ad (0 + 85)), .ref (ad (0 + 199)), .ref (ad (0 + 202))]))], [((ad (0 + 1)), .inr (4, [.ref (ad (0 + 1 + 1)), .ref (ad (0 + 1 + 6)), .ref (ad (0 + 1 + 13)), .ref (ad (0 + 1 + 23)), .ref (ad (0 + 1 + 27)), .int ((S1 1 0) 4 1 0)]))], (w_X6 ad (0 + 1 + 1) cs ((S1 1 0) 0)), (w_X1 ad (0 + 1 + 6) cs ((S1 1 0) 1)), (w_X4 ad (0 + 1 + 13) cs ((S1 1 0) 2)), (w_X8 ad (0 + 1 + 23) cs ((S1 1 0) 3)), [((ad (0 + 1 + 27)), .inl (cs 0, 3, .inl ((S1 1 0) 4 0)))], (w_X5 ad (0 + 29) cs (S1 1 1)), (w_X5 ad (0 + 57) cs (S1 1 2)), (w_X3 ad (0 + 85) cs (S1 0)), (w_X2 ad (0 + 199) cs (S1 1 3 0)), (w_X7 ad (0 + 202) cs en (S1 1 3 1))]) (L' := [[((ad 0), .inr (8, [.ref (ad (0 + 1)), .ref (ad (0 + 29)), .ref (ad (0 + 57)), .int (S1 1 3 2 0 0), .ref (ad (0 + 85)), .ref (ad (0 + 199)), .ref (ad (0 + 202))]))], [((ad (0 + 1)), .inr (4, [.ref (ad (0 + 1 + 1)), .ref (ad (0 + 1 + 6)), .ref (ad (0 + 1 + 13)), .ref (ad (0 + 1 + 23)), .ref (ad (0 + 1 + 27)), .int ((S1 1 0) 4 1 0)]))], (w_X6 ad (0 + 1 + 1) cs ((S1 1 0) 0)), (w_X1 ad (0 + 1 + 6) cs ((S1 1 0) 1)), (w_X4 ad (0 + 1 + 13) cs ((S1 1 0) 2)), (w_X8 ad (0 + 1 + 23) cs ((S1 1 0) 3)), [((ad (0 + 1 + 27)), .inl (cs 0, 3, .inl ((S1 1 0) 4 0)))], (w_X5 ad (0 + 29) cs (S1 1 1)), (w_X5 ad (0 + 57) cs (S1 1 2)), (w_X3 ad (0 + 85) cs (S1 0)), (w_X2 ad (0 + 199) cs (S1 1 3 0)), (w_X7 ad (0 + 202) cs en (S1 1 3 1))]) (Wc := [(w_X4 ad (0 + 1 + 13) cs ((S1 1 0) 2))]) (Wc' := [(w_X4 ad (0 + 1 + 13) cs (S1 1 0 2))]) (is := [4]) (js := [0, 1, 2, 3, 5, 6, 7, 8, 9, 10, 11]) ⟨hx, hb, hml, hown, hts⟩ (k_X4_fee l dC dI cs ad (0 + 1 + 13) s.heap.size (S1 1 0 2) p1 (S1 1 0 4 1 0) q88 gq88) (cwV 2 hts gX10_rideOf_X4_fee rfl rfl rfl cd_X4_fee ⟨Nat.le_of_ble_eq_true rfl, Nat.le_of_ble_eq_true rfl⟩) hK hP hD hS hA ⟨rfl, rfl, rfl, rfl, rfl, rfl⟩ (jn_nd (is := [4]) hD rfl rfl) 14 3 rfl rfl rfl rfl rfl hl.1 (Nat.le_of_ble_eq_true rfl) dX10_rideOf_88 (fun H88 locs88 hP' hD' hS' => ?_)
        replace hS := hS'
        replace hP : va_P (dC, dI) vwCl (fl [(w_X10 ad (0) cs en S1)]) H88 := hP'
        replace hD : va_D A (fl [(w_X10 ad (0) cs en S1)]) := hD'
        clear hP' hD' hS'
        replace hR := Option.some.inj hR
        have e9 := hR
        exact W.iret hx hb hr (fun t ht hW => ⟨⟨_, (), rfl, e9, by rw [ht]; exact hP, va_K.moved hW.alike hK, hD⟩, hS.F ht⟩) hS.2.2 dX10_rideOf_91
set_option maxHeartbeats 8000000 in
set_option maxRecDepth 100000 in
theorem k_X10_riderOf (l : Launch) (dC : Nat → ClassId) (dI : Nat → Nat → Nat) (cs : Nat → ClassId) (ad : Nat → Nat) (en : Nat → Nat) (sz : Nat) (S1 : T5) (p1 : Int32) (p2 : Int32) (r : Int32) (hR : fX10_riderOf S1 p1 p2 = some r) : Met l yX10_riderOf wsX10_riderOf ({ frames := 4, cells := 0, slots := 0, locals := 88 } : Room) (va_Pc [.ref (ad 0), .int p1, .int p2] (pW dC dI (tyL cs) (fl [(w_X10 ad (0) cs en S1)]) sz)) (QI dC dI (tyL cs) (va_A (fl [(w_X10 ad (0) cs en S1)]) sz) (fl [(w_X10 ad (0) cs en S1)]) r) 0 0 (va_A (fl [(w_X10 ad (0) cs en S1)]) sz) := by
  refine mt_of (own := RX10) (cc := cX10_riderOf) (maxL := 3) (ret := (some .int)) (Qc := fun A => QI dC dI (tyL cs) A (fl [(w_X10 ad (0) cs en S1)]) r) rfl (by decide) rfl (Nat.le_of_ble_eq_true rfl) (fun p e s m below meth c A ls hsz hx hb hr hts hown hlocks hml hA hK hP hD hS hl => ?_)
  subst hsz
  have hl : lv_has ls 3 [(0, .ref (ad 0)), (1, .int p1), (2, .int p2)] := hl
  have hF10 := hts (.fieldLink RX10 10 "DockedBikes" "now" "LDockedBikes$Road;") (List.mem_of_getElem? (i := 1) rfl)
  have hF153 := hts (.fieldLink RX10 153 "DockedBikes$Road" "riders" "LDockedBikes$Riders;") (List.mem_of_getElem? (i := 2) rfl)
  have hF166 := hts (.fieldLink RX10 166 "DockedBikes$Riders" "owed" "[I") (List.mem_of_getElem? (i := 3) rfl)
  have hF169 := hts (.fieldLink RX10 169 "DockedBikes$Riders" "passEnd" "[I") (List.mem_of_getElem? (i := 4) rfl)
  have hF172 := hts (.fieldLink RX10 172 "DockedBikes$Road" "time" "I") (List.mem_of_getElem? (i := 5) rfl)
  have hF181 := hts (.fieldLink RX10 181 "DockedBikes$Riders" "rides" "[I") (List.mem_of_getElem? (i := 10) rfl)
  have hF182 := hts (.fieldLink RX10 182 "DockedBikes$Riders" "passCoins" "[I") (List.mem_of_getElem? (i := 11) rfl)
  have hinX10 : ∀ w ∈ wsX100, w ∈ wsX10_riderOf := by decide +kernel
  have hinX4 : ∀ w ∈ wsX40, w ∈ wsX10_riderOf := by decide +kernel
  have hinX5 : ∀ w ∈ wsX50, w ∈ wsX10_riderOf := by decide +kernel
  have hB62 : ∀ (H : Heap) (locs : List Loc) (ls : Array Slot), fX10_riderOf_62 S1 p1 p2 = some r → va_P (dC, dI) vwCl (fl [(w_X10 ad (0) cs en S1)]) H → va_D A (fl [(w_X10 ad (0) cs en S1)]) → va_S A s.heap H locs → lv_has ls 3 [(0, .ref (ad 0)), (1, .int p1), (2, .int p2)] → W p l e (headSpec wsX10_riderOf ({ frames := 4, cells := 0, slots := 0, locals := 88 } : Room)).room s m ([.ref (ad 0), .int p1, .int p2] : List Value).toArray below meth c H locs 0 0 (MQ below (QI dC dI (tyL cs) A (fl [(w_X10 ad (0) cs en S1)]) r) ([.ref (ad 0), .int p1, .int p2] : List Value).toArray s 0 0 A) (F0 m 62 ls []) := by
    intro H locs ls hR hP hD hS hl
    refine lv_iload_n hx hb dX10_riderOf_62 rfl (lv_at hl 2 rfl) ?_
    by_cases c63_0 : p2 = 0
    · replace hR := it_t hR c63_0
      refine lv_lookup (off := 33) (tgt := 96) hx hb dX10_riderOf_63 (by decide) (by rw [c63_0]; decide +kernel) (by decide) ?_
      refine lv_aload_n hx hb dX10_riderOf_96 rfl (lv_at hl 0 rfl) ?_
      refine va_get (D := (dC, dI)) (ci := 8) (v := .ref (ad (0 + 1))) (C := RX10) (T := TX10) (N := 7) hx hb hts hinX10 hown hK hP 0 rfl rfl 0 (by decide) hF10 (fun _ h9 => h9) rfl dX10_riderOf_97 ?_
      refine va_get (D := (dC, dI)) (ci := 4) (v := .ref (ad (0 + 1 + 13))) (C := RX5) (T := TX5) (N := 6) hx hb hts hinX5 hown hK hP 1 rfl rfl 2 (by decide) hF153 (fun _ h9 => h9) rfl dX10_riderOf_100 ?_
      refine va_get (D := (dC, dI)) (ci := 3) (v := .ref (ad (0 + 1 + 13 + 1))) (C := RX4) (T := TX4) (N := 10) hx hb hts hinX4 hown hK hP 14 rfl rfl 1 (by decide) hF166 (fun _ h9 => h9) rfl dX10_riderOf_103 ?_
      refine lv_iload_n hx hb dX10_riderOf_106 rfl (lv_at hl 1 rfl) ?_
      replace hR := gi_e hR
      obtain ⟨i107, hR⟩ := hR
      refine va_iald hx hb hK hP 15 0 rfl rfl i107 dX10_riderOf_107 ?_
      replace hR := Option.some.inj hR
      have e9 := hR
      exact W.iret hx hb hr (fun t ht hW => ⟨⟨_, (), rfl, e9, by rw [ht]; exact hP, va_K.moved hW.alike hK, hD⟩, hS.F ht⟩) hS.2.2 dX10_riderOf_108
    · replace hR := it_f hR c63_0
      by_cases c63_1 : p2 = 1
      · replace hR := it_t hR c63_1
        refine lv_lookup (off := 46) (tgt := 109) hx hb dX10_riderOf_63 (by decide) (by rw [c63_1]; decide +kernel) (by decide) ?_
        refine lv_iconst (v := 0) hx hb dX10_riderOf_109 ic_0 ?_
        refine lv_aload_n hx hb dX10_riderOf_110 rfl (lv_at hl 0 rfl) ?_
        refine va_get (D := (dC, dI)) (ci := 8) (v := .ref (ad (0 + 1))) (C := RX10) (T := TX10) (N := 7) hx hb hts hinX10 hown hK hP 0 rfl rfl 0 (by decide) hF10 (fun _ h9 => h9) rfl dX10_riderOf_111 ?_
        refine va_get (D := (dC, dI)) (ci := 4) (v := .ref (ad (0 + 1 + 13))) (C := RX5) (T := TX5) (N := 6) hx hb hts hinX5 hown hK hP 1 rfl rfl 2 (by decide) hF153 (fun _ h9 => h9) rfl dX10_riderOf_114 ?_
        refine va_get (D := (dC, dI)) (ci := 3) (v := .ref (ad (0 + 1 + 13 + 2))) (C := RX4) (T := TX4) (N := 10) hx hb hts hinX4 hown hK hP 14 rfl rfl 2 (by decide) hF169 (fun _ h9 => h9) rfl dX10_riderOf_117 ?_
        refine lv_iload_n hx hb dX10_riderOf_120 rfl (lv_at hl 1 rfl) ?_
        replace hR := gi_e hR
        obtain ⟨i121, hR⟩ := hR
        refine va_iald hx hb hK hP 16 0 rfl rfl i121 dX10_riderOf_121 ?_
        refine lv_aload_n hx hb dX10_riderOf_122 rfl (lv_at hl 0 rfl) ?_
        refine va_get (D := (dC, dI)) (ci := 8) (v := .ref (ad (0 + 1))) (C := RX10) (T := TX10) (N := 7) hx hb hts hinX10 hown hK hP 0 rfl rfl 0 (by decide) hF10 (fun _ h9 => h9) rfl dX10_riderOf_123 ?_
        refine va_get (D := (dC, dI)) (ci := 4) (v := .int (S1 1 0 4 1 0)) (C := RX5) (T := TX5) (N := 6) hx hb hts hinX5 hown hK hP 1 rfl rfl 5 (by decide) hF172 (fun _ h9 => h9) rfl dX10_riderOf_126 ?_
        refine lv_isub hx hb dX10_riderOf_129 ?_
        refine va_mmax hx hb (hml.trans hl.1.symm) hown (hts (.methodLink RX10 176 Lib.Math.max.name) (List.mem_of_getElem? (i := 6) rfl)) (hts (.static Lib.Math.max.name) (List.mem_of_getElem? (i := 7) rfl)) (hts (.initialized "java/lang/Math") (List.mem_of_getElem? (i := 8) rfl)) (hts (.code Lib.Math.max.name Lib.Math.max.code 2 (some .int)) (List.mem_of_getElem? (i := 9) rfl)) (Nat.le_of_ble_eq_true rfl) (Nat.le_of_ble_eq_true rfl) (Nat.zero_le _) (Nat.zero_le _) dX10_riderOf_130 ?_
        replace hR := bn_e hR
        obtain ⟨m130, em130, hR⟩ := hR
        refine tp_e em130 ?_
        replace hR := Option.some.inj hR
        have e9 := hR
        exact W.iret hx hb hr (fun t ht hW => ⟨⟨_, (), rfl, e9, by rw [ht]; exact hP, va_K.moved hW.alike hK, hD⟩, hS.F ht⟩) hS.2.2 dX10_riderOf_133
      · replace hR := it_f hR c63_1
        by_cases c63_2 : p2 = 6
        · replace hR := it_t hR c63_2
          refine lv_lookup (off := 71) (tgt := 134) hx hb dX10_riderOf_63 (by decide) (by rw [c63_2]; decide +kernel) (by decide) ?_
          refine lv_aload_n hx hb dX10_riderOf_134 rfl (lv_at hl 0 rfl) ?_
          refine va_get (D := (dC, dI)) (ci := 8) (v := .ref (ad (0 + 1))) (C := RX10) (T := TX10) (N := 7) hx hb hts hinX10 hown hK hP 0 rfl rfl 0 (by decide) hF10 (fun _ h9 => h9) rfl dX10_riderOf_135 ?_
          refine va_get (D := (dC, dI)) (ci := 4) (v := .ref (ad (0 + 1 + 13))) (C := RX5) (T := TX5) (N := 6) hx hb hts hinX5 hown hK hP 1 rfl rfl 2 (by decide) hF153 (fun _ h9 => h9) rfl dX10_riderOf_138 ?_
          refine va_get (D := (dC, dI)) (ci := 3) (v := .ref (ad (0 + 1 + 13 + 4))) (C := RX4) (T := TX4) (N := 10) hx hb hts hinX4 hown hK hP 14 rfl rfl 4 (by decide) hF181 (fun _ h9 => h9) rfl dX10_riderOf_141 ?_
          refine lv_iload_n hx hb dX10_riderOf_144 rfl (lv_at hl 1 rfl) ?_
          replace hR := gi_e hR
          obtain ⟨i145, hR⟩ := hR
          refine va_iald hx hb hK hP 18 0 rfl rfl i145 dX10_riderOf_145 ?_
          replace hR := Option.some.inj hR
          have e9 := hR
          exact W.iret hx hb hr (fun t ht hW => ⟨⟨_, (), rfl, e9, by rw [ht]; exact hP, va_K.moved hW.alike hK, hD⟩, hS.F ht⟩) hS.2.2 dX10_riderOf_146
        · replace hR := it_f hR c63_2
          refine lv_lookup (off := 84) (tgt := 147) hx hb dX10_riderOf_63 (by decide) ((lv_osw c63_0 rfl).trans ((lv_osw c63_1 rfl).trans ((lv_osw c63_2 rfl).trans (rfl)))) (by decide) ?_
          refine lv_aload_n hx hb dX10_riderOf_147 rfl (lv_at hl 0 rfl) ?_
          refine va_get (D := (dC, dI)) (ci := 8) (v := .ref (ad (0 + 1))) (C := RX10) (T := TX10) (N := 7) hx hb hts hinX10 hown hK hP 0 rfl rfl 0 (by decide) hF10 (fun _ h9 => h9) rfl dX10_riderOf_148 ?_
          refine va_get (D := (dC, dI)) (ci := 4) (v := .ref (ad (0 + 1 + 13))) (C := RX5) (T := TX5) (N := 6) hx hb hts hinX5 hown hK hP 1 rfl rfl 2 (by decide) hF153 (fun _ h9 => h9) rfl dX10_riderOf_151 ?_
          refine va_get (D := (dC, dI)) (ci := 3) (v := .ref (ad (0 + 1 + 13 + 3))) (C := RX4) (T := TX4) (N := 10) hx hb hts hinX4 hown hK hP 14 rfl rfl 3 (by decide) hF182 (fun _ h9 => h9) rfl dX10_riderOf_154 ?_
          refine lv_iload_n hx hb dX10_riderOf_157 rfl (lv_at hl 1 rfl) ?_
          replace hR := gi_e hR
          obtain ⟨i158, hR⟩ := hR
          refine va_iald hx hb hK hP 17 0 rfl rfl i158 dX10_riderOf_158 ?_
          replace hR := Option.some.inj hR
          have e9 := hR
          exact W.iret hx hb hr (fun t ht hW => ⟨⟨_, (), rfl, e9, by rw [ht]; exact hP, va_K.moved hW.alike hK, hD⟩, hS.F ht⟩) hS.2.2 dX10_riderOf_159
  refine lv_aload_n hx hb dX10_riderOf_0 rfl (lv_at hl 0 rfl) ?_
  refine va_get (D := (dC, dI)) (ci := 8) (v := .ref (ad (0 + 1))) (C := RX10) (T := TX10) (N := 7) hx hb hts hinX10 hown hK hP 0 rfl rfl 0 (by decide) hF10 (fun _ h9 => h9) rfl dX10_riderOf_1 ?_
  refine va_get (D := (dC, dI)) (ci := 4) (v := .ref (ad (0 + 1 + 13))) (C := RX5) (T := TX5) (N := 6) hx hb hts hinX5 hown hK hP 1 rfl rfl 2 (by decide) hF153 (fun _ h9 => h9) rfl dX10_riderOf_4 ?_
  refine lv_iload_n hx hb dX10_riderOf_7 rfl (lv_at hl 1 rfl) ?_
  replace hR := bd_e hR
  obtain ⟨q8, gq8, hR⟩ := hR
  replace hP : va_P (dC, dI) vwCl (fl [[((ad 0), .inr (8, [.ref (ad (0 + 1)), .ref (ad (0 + 29)), .ref (ad (0 + 57)), .int (S1 1 3 2 0 0), .ref (ad (0 + 85)), .ref (ad (0 + 199)), .ref (ad (0 + 202))]))], [((ad (0 + 1)), .inr (4, [.ref (ad (0 + 1 + 1)), .ref (ad (0 + 1 + 6)), .ref (ad (0 + 1 + 13)), .ref (ad (0 + 1 + 23)), .ref (ad (0 + 1 + 27)), .int ((S1 1 0) 4 1 0)]))], (w_X6 ad (0 + 1 + 1) cs ((S1 1 0) 0)), (w_X1 ad (0 + 1 + 6) cs ((S1 1 0) 1)), (w_X4 ad (0 + 1 + 13) cs ((S1 1 0) 2)), (w_X8 ad (0 + 1 + 23) cs ((S1 1 0) 3)), [((ad (0 + 1 + 27)), .inl (cs 0, 3, .inl ((S1 1 0) 4 0)))], (w_X5 ad (0 + 29) cs (S1 1 1)), (w_X5 ad (0 + 57) cs (S1 1 2)), (w_X3 ad (0 + 85) cs (S1 0)), (w_X2 ad (0 + 199) cs (S1 1 3 0)), (w_X7 ad (0 + 202) cs en (S1 1 3 1))]) s.heap := hP
  replace hD : va_D A (fl [[((ad 0), .inr (8, [.ref (ad (0 + 1)), .ref (ad (0 + 29)), .ref (ad (0 + 57)), .int (S1 1 3 2 0 0), .ref (ad (0 + 85)), .ref (ad (0 + 199)), .ref (ad (0 + 202))]))], [((ad (0 + 1)), .inr (4, [.ref (ad (0 + 1 + 1)), .ref (ad (0 + 1 + 6)), .ref (ad (0 + 1 + 13)), .ref (ad (0 + 1 + 23)), .ref (ad (0 + 1 + 27)), .int ((S1 1 0) 4 1 0)]))], (w_X6 ad (0 + 1 + 1) cs ((S1 1 0) 0)), (w_X1 ad (0 + 1 + 6) cs ((S1 1 0) 1)), (w_X4 ad (0 + 1 + 13) cs ((S1 1 0) 2)), (w_X8 ad (0 + 1 + 23) cs ((S1 1 0) 3)), [((ad (0 + 1 + 27)), .inl (cs 0, 3, .inl ((S1 1 0) 4 0)))], (w_X5 ad (0 + 29) cs (S1 1 1)), (w_X5 ad (0 + 57) cs (S1 1 2)), (w_X3 ad (0 + 85) cs (S1 0)), (w_X2 ad (0 + 199) cs (S1 1 3 0)), (w_X7 ad (0 + 202) cs en (S1 1 3 1))]) := hD
  refine cl_Vi (As := [.int p1]) (rest := []) (L := [[((ad 0), .inr (8, [.ref (ad (0 + 1)), .ref (ad (0 + 29)), .ref (ad (0 + 57)), .int (S1 1 3 2 0 0), .ref (ad (0 + 85)), .ref (ad (0 + 199)), .ref (ad (0 + 202))]))], [((ad (0 + 1)), .inr (4, [.ref (ad (0 + 1 + 1)), .ref (ad (0 + 1 + 6)), .ref (ad (0 + 1 + 13)), .ref (ad (0 + 1 + 23)), .ref (ad (0 + 1 + 27)), .int ((S1 1 0) 4 1 0)]))], (w_X6 ad (0 + 1 + 1) cs ((S1 1 0) 0)), (w_X1 ad (0 + 1 + 6) cs ((S1 1 0) 1)), (w_X4 ad (0 + 1 + 13) cs ((S1 1 0) 2)), (w_X8 ad (0 + 1 + 23) cs ((S1 1 0) 3)), [((ad (0 + 1 + 27)), .inl (cs 0, 3, .inl ((S1 1 0) 4 0)))], (w_X5 ad (0 + 29) cs (S1 1 1)), (w_X5 ad (0 + 57) cs (S1 1 2)), (w_X3 ad (0 + 85) cs (S1 0)), (w_X2 ad (0 + 199) cs (S1 1 3 0)), (w_X7 ad (0 + 202) cs en (S1 1 3 1))]) (L' := [[((ad 0), .inr (8, [.ref (ad (0 + 1)), .ref (ad (0 + 29)), .ref (ad (0 + 57)), .int (S1 1 3 2 0 0), .ref (ad (0 + 85)), .ref (ad (0 + 199)), .ref (ad (0 + 202))]))], [((ad (0 + 1)), .inr (4, [.ref (ad (0 + 1 + 1)), .ref (ad (0 + 1 + 6)), .ref (ad (0 + 1 + 13)), .ref (ad (0 + 1 + 23)), .ref (ad (0 + 1 + 27)), .int ((S1 1 0) 4 1 0)]))], (w_X6 ad (0 + 1 + 1) cs ((S1 1 0) 0)), (w_X1 ad (0 + 1 + 6) cs ((S1 1 0) 1)), (w_X4 ad (0 + 1 + 13) cs ((S1 1 0) 2)), (w_X8 ad (0 + 1 + 23) cs ((S1 1 0) 3)), [((ad (0 + 1 + 27)), .inl (cs 0, 3, .inl ((S1 1 0) 4 0)))], (w_X5 ad (0 + 29) cs (S1 1 1)), (w_X5 ad (0 + 57) cs (S1 1 2)), (w_X3 ad (0 + 85) cs (S1 0)), (w_X2 ad (0 + 199) cs (S1 1 3 0)), (w_X7 ad (0 + 202) cs en (S1 1 3 1))]) (Wc := [(w_X4 ad (0 + 1 + 13) cs ((S1 1 0) 2))]) (Wc' := [(w_X4 ad (0 + 1 + 13) cs (S1 1 0 2))]) (is := [4]) (js := [0, 1, 2, 3, 5, 6, 7, 8, 9, 10, 11]) ⟨hx, hb, hml, hown, hts⟩ (k_X4_has l dC dI cs ad (0 + 1 + 13) s.heap.size (S1 1 0 2) p1 q8 gq8) (cwV 1 hts gX10_riderOf_X4_has rfl rfl rfl cd_X4_has ⟨Nat.le_of_ble_eq_true rfl, Nat.le_of_ble_eq_true rfl⟩) hK hP hD hS hA ⟨rfl, rfl, rfl, rfl, rfl, rfl⟩ (jn_nd (is := [4]) hD rfl rfl) 14 3 rfl rfl rfl rfl rfl hl.1 (Nat.le_of_ble_eq_true rfl) dX10_riderOf_8 (fun H8 locs8 hP' hD' hS' => ?_)
  replace hS := hS'
  replace hP : va_P (dC, dI) vwCl (fl [(w_X10 ad (0) cs en S1)]) H8 := hP'
  replace hD : va_D A (fl [(w_X10 ad (0) cs en S1)]) := hD'
  clear hP' hD' hS'
  refine lv_if_eq (tgt := 24) hx hb dX10_riderOf_11 (by decide) (fun c11 => ?_) (fun c11 => ?_)
  · replace hR := it_t hR c11
    refine lv_iconst (v := (-1)) hx hb dX10_riderOf_24 ic_m1 ?_
    replace hR := Option.some.inj hR
    have e9 := hR
    exact W.iret hx hb hr (fun t ht hW => ⟨⟨_, (), rfl, e9, by rw [ht]; exact hP, va_K.moved hW.alike hK, hD⟩, hS.F ht⟩) hS.2.2 dX10_riderOf_25
  · replace hR := it_f hR c11
    refine lv_iload_n hx hb dX10_riderOf_14 rfl (lv_at hl 2 rfl) ?_
    refine lv_if_lt (tgt := 24) hx hb dX10_riderOf_15 (by decide) (fun c15 => ?_) (fun c15 => ?_)
    · replace hR := it_t hR c15
      refine lv_iconst (v := (-1)) hx hb dX10_riderOf_24 ic_m1 ?_
      replace hR := Option.some.inj hR
      have e9 := hR
      exact W.iret hx hb hr (fun t ht hW => ⟨⟨_, (), rfl, e9, by rw [ht]; exact hP, va_K.moved hW.alike hK, hD⟩, hS.F ht⟩) hS.2.2 dX10_riderOf_25
    · replace hR := it_f hR c15
      refine lv_iload_n hx hb dX10_riderOf_18 rfl (lv_at hl 2 rfl) ?_
      refine lv_bipush (v := 7) hx hb dX10_riderOf_19 bp_7 ?_
      refine lv_icmp_le (tgt := 26) hx hb dX10_riderOf_21 (by decide) (fun c21 => ?_) (fun c21 => ?_)
      · replace hR := it_t hR c21
        refine lv_iload_n hx hb dX10_riderOf_26 rfl (lv_at hl 2 rfl) ?_
        refine lv_iconst (v := 2) hx hb dX10_riderOf_27 ic_2 ?_
        refine lv_icmp_lt (tgt := 62) hx hb dX10_riderOf_28 (by decide) (fun c28 => ?_) (fun c28 => ?_)
        · replace hR := it_t hR c28
          exact hB62 H8 _ ls hR hP hD hS (lv_sub hl [0, 1, 2] rfl)
        · replace hR := it_f hR c28
          refine lv_iload_n hx hb dX10_riderOf_31 rfl (lv_at hl 2 rfl) ?_
          refine lv_iconst (v := 5) hx hb dX10_riderOf_32 ic_5 ?_
          refine lv_icmp_gt (tgt := 62) hx hb dX10_riderOf_33 (by decide) (fun c33 => ?_) (fun c33 => ?_)
          · replace hR := it_t hR c33
            exact hB62 H8 _ ls hR hP hD hS (lv_sub hl [0, 1, 2] rfl)
          · replace hR := it_f hR c33
            refine lv_aload_n hx hb dX10_riderOf_36 rfl (lv_at hl 0 rfl) ?_
            refine va_get (D := (dC, dI)) (ci := 8) (v := .ref (ad (0 + 1))) (C := RX10) (T := TX10) (N := 7) hx hb hts hinX10 hown hK hP 0 rfl rfl 0 (by decide) hF10 (fun _ h9 => h9) rfl dX10_riderOf_37 ?_
            refine va_get (D := (dC, dI)) (ci := 4) (v := .ref (ad (0 + 1 + 13))) (C := RX5) (T := TX5) (N := 6) hx hb hts hinX5 hown hK hP 1 rfl rfl 2 (by decide) hF153 (fun _ h9 => h9) rfl dX10_riderOf_40 ?_
            refine lv_iload_n hx hb dX10_riderOf_43 rfl (lv_at hl 1 rfl) ?_
            replace hR := bd_e hR
            obtain ⟨q44, gq44, hR⟩ := hR
            replace hP : va_P (dC, dI) vwCl (fl [[((ad 0), .inr (8, [.ref (ad (0 + 1)), .ref (ad (0 + 29)), .ref (ad (0 + 57)), .int (S1 1 3 2 0 0), .ref (ad (0 + 85)), .ref (ad (0 + 199)), .ref (ad (0 + 202))]))], [((ad (0 + 1)), .inr (4, [.ref (ad (0 + 1 + 1)), .ref (ad (0 + 1 + 6)), .ref (ad (0 + 1 + 13)), .ref (ad (0 + 1 + 23)), .ref (ad (0 + 1 + 27)), .int ((S1 1 0) 4 1 0)]))], (w_X6 ad (0 + 1 + 1) cs ((S1 1 0) 0)), (w_X1 ad (0 + 1 + 6) cs ((S1 1 0) 1)), (w_X4 ad (0 + 1 + 13) cs ((S1 1 0) 2)), (w_X8 ad (0 + 1 + 23) cs ((S1 1 0) 3)), [((ad (0 + 1 + 27)), .inl (cs 0, 3, .inl ((S1 1 0) 4 0)))], (w_X5 ad (0 + 29) cs (S1 1 1)), (w_X5 ad (0 + 57) cs (S1 1 2)), (w_X3 ad (0 + 85) cs (S1 0)), (w_X2 ad (0 + 199) cs (S1 1 3 0)), (w_X7 ad (0 + 202) cs en (S1 1 3 1))]) H8 := hP
            replace hD : va_D A (fl [[((ad 0), .inr (8, [.ref (ad (0 + 1)), .ref (ad (0 + 29)), .ref (ad (0 + 57)), .int (S1 1 3 2 0 0), .ref (ad (0 + 85)), .ref (ad (0 + 199)), .ref (ad (0 + 202))]))], [((ad (0 + 1)), .inr (4, [.ref (ad (0 + 1 + 1)), .ref (ad (0 + 1 + 6)), .ref (ad (0 + 1 + 13)), .ref (ad (0 + 1 + 23)), .ref (ad (0 + 1 + 27)), .int ((S1 1 0) 4 1 0)]))], (w_X6 ad (0 + 1 + 1) cs ((S1 1 0) 0)), (w_X1 ad (0 + 1 + 6) cs ((S1 1 0) 1)), (w_X4 ad (0 + 1 + 13) cs ((S1 1 0) 2)), (w_X8 ad (0 + 1 + 23) cs ((S1 1 0) 3)), [((ad (0 + 1 + 27)), .inl (cs 0, 3, .inl ((S1 1 0) 4 0)))], (w_X5 ad (0 + 29) cs (S1 1 1)), (w_X5 ad (0 + 57) cs (S1 1 2)), (w_X3 ad (0 + 85) cs (S1 0)), (w_X2 ad (0 + 199) cs (S1 1 3 0)), (w_X7 ad (0 + 202) cs en (S1 1 3 1))]) := hD
            refine cl_Vi (As := [.int p1]) (rest := []) (L := [[((ad 0), .inr (8, [.ref (ad (0 + 1)), .ref (ad (0 + 29)), .ref (ad (0 + 57)), .int (S1 1 3 2 0 0), .ref (ad (0 + 85)), .ref (ad (0 + 199)), .ref (ad (0 + 202))]))], [((ad (0 + 1)), .inr (4, [.ref (ad (0 + 1 + 1)), .ref (ad (0 + 1 + 6)), .ref (ad (0 + 1 + 13)), .ref (ad (0 + 1 + 23)), .ref (ad (0 + 1 + 27)), .int ((S1 1 0) 4 1 0)]))], (w_X6 ad (0 + 1 + 1) cs ((S1 1 0) 0)), (w_X1 ad (0 + 1 + 6) cs ((S1 1 0) 1)), (w_X4 ad (0 + 1 + 13) cs ((S1 1 0) 2)), (w_X8 ad (0 + 1 + 23) cs ((S1 1 0) 3)), [((ad (0 + 1 + 27)), .inl (cs 0, 3, .inl ((S1 1 0) 4 0)))], (w_X5 ad (0 + 29) cs (S1 1 1)), (w_X5 ad (0 + 57) cs (S1 1 2)), (w_X3 ad (0 + 85) cs (S1 0)), (w_X2 ad (0 + 199) cs (S1 1 3 0)), (w_X7 ad (0 + 202) cs en (S1 1 3 1))]) (L' := [[((ad 0), .inr (8, [.ref (ad (0 + 1)), .ref (ad (0 + 29)), .ref (ad (0 + 57)), .int (S1 1 3 2 0 0), .ref (ad (0 + 85)), .ref (ad (0 + 199)), .ref (ad (0 + 202))]))], [((ad (0 + 1)), .inr (4, [.ref (ad (0 + 1 + 1)), .ref (ad (0 + 1 + 6)), .ref (ad (0 + 1 + 13)), .ref (ad (0 + 1 + 23)), .ref (ad (0 + 1 + 27)), .int ((S1 1 0) 4 1 0)]))], (w_X6 ad (0 + 1 + 1) cs ((S1 1 0) 0)), (w_X1 ad (0 + 1 + 6) cs ((S1 1 0) 1)), (w_X4 ad (0 + 1 + 13) cs ((S1 1 0) 2)), (w_X8 ad (0 + 1 + 23) cs ((S1 1 0) 3)), [((ad (0 + 1 + 27)), .inl (cs 0, 3, .inl ((S1 1 0) 4 0)))], (w_X5 ad (0 + 29) cs (S1 1 1)), (w_X5 ad (0 + 57) cs (S1 1 2)), (w_X3 ad (0 + 85) cs (S1 0)), (w_X2 ad (0 + 199) cs (S1 1 3 0)), (w_X7 ad (0 + 202) cs en (S1 1 3 1))]) (Wc := [(w_X4 ad (0 + 1 + 13) cs ((S1 1 0) 2))]) (Wc' := [(w_X4 ad (0 + 1 + 13) cs (S1 1 0 2))]) (is := [4]) (js := [0, 1, 2, 3, 5, 6, 7, 8, 9, 10, 11]) ⟨hx, hb, hml, hown, hts⟩ (k_X4_hasRide l dC dI cs ad (0 + 1 + 13) H8.size (S1 1 0 2) p1 q44 gq44) (cwV 1 hts gX10_riderOf_X4_hasRide rfl rfl rfl cd_X4_hasRide ⟨Nat.le_of_ble_eq_true rfl, Nat.le_of_ble_eq_true rfl⟩) hK hP hD hS hA ⟨rfl, rfl, rfl, rfl, rfl, rfl⟩ (jn_nd (is := [4]) hD rfl rfl) 14 3 rfl rfl rfl rfl rfl hl.1 (Nat.le_of_ble_eq_true rfl) dX10_riderOf_44 (fun H44 locs44 hP' hD' hS' => ?_)
            replace hS := hS'
            replace hP : va_P (dC, dI) vwCl (fl [(w_X10 ad (0) cs en S1)]) H44 := hP'
            replace hD : va_D A (fl [(w_X10 ad (0) cs en S1)]) := hD'
            clear hP' hD' hS'
            refine lv_if_eq (tgt := 59) hx hb dX10_riderOf_47 (by decide) (fun c47 => ?_) (fun c47 => ?_)
            · replace hR := it_t hR c47
              refine lv_bipush (v := (-4)) hx hb dX10_riderOf_59 bp_m4 ?_
              replace hR := Option.some.inj hR
              have e9 := hR
              exact W.iret hx hb hr (fun t ht hW => ⟨⟨_, (), rfl, e9, by rw [ht]; exact hP, va_K.moved hW.alike hK, hD⟩, hS.F ht⟩) hS.2.2 dX10_riderOf_61
            · replace hR := it_f hR c47
              refine lv_aload_n hx hb dX10_riderOf_50 rfl (lv_at hl 0 rfl) ?_
              refine lv_iload_n hx hb dX10_riderOf_51 rfl (lv_at hl 1 rfl) ?_
              refine lv_iload_n hx hb dX10_riderOf_52 rfl (lv_at hl 2 rfl) ?_
              replace hR := bd_e hR
              obtain ⟨q53, gq53, hR⟩ := hR
              refine cl_Vi (As := [.int p1, .int p2]) (rest := []) (L := [(w_X10 ad (0) cs en S1)]) (L' := [(w_X10 ad (0) cs en S1)]) (Wc := [(w_X10 ad (0) cs en S1)]) (Wc' := [(w_X10 ad (0) cs en S1)]) (is := [0]) (js := []) ⟨hx, hb, hml, hown, hts⟩ (k_X10_rideOf l dC dI cs ad en H44.size S1 p1 p2 q53 gq53) (cwV 2 hts gX10_riderOf_X10_rideOf rfl rfl rfl cd_X10_rideOf ⟨Nat.le_of_ble_eq_true rfl, Nat.le_of_ble_eq_true rfl⟩) hK hP hD hS hA ⟨rfl, rfl, rfl, rfl, rfl, rfl⟩ (jn_nd (is := [0]) hD rfl rfl) 0 8 rfl rfl rfl rfl rfl hl.1 (Nat.le_of_ble_eq_true rfl) dX10_riderOf_53 (fun H53 locs53 hP' hD' hS' => ?_)
              replace hS := hS'
              replace hP : va_P (dC, dI) vwCl (fl [(w_X10 ad (0) cs en S1)]) H53 := hP'
              replace hD : va_D A (fl [(w_X10 ad (0) cs en S1)]) := hD'
              clear hP' hD' hS'
              refine lv_goto (tgt := 61) hx hb dX10_riderOf_56 (by decide) ?_
              replace hR := Option.some.inj hR
              have e9 := hR
              exact W.iret hx hb hr (fun t ht hW => ⟨⟨_, (), rfl, e9, by rw [ht]; exact hP, va_K.moved hW.alike hK, hD⟩, hS.F ht⟩) hS.2.2 dX10_riderOf_61
      · replace hR := it_f hR c21
        refine lv_iconst (v := (-1)) hx hb dX10_riderOf_24 ic_m1 ?_
        replace hR := Option.some.inj hR
        have e9 := hR
        exact W.iret hx hb hr (fun t ht hW => ⟨⟨_, (), rfl, e9, by rw [ht]; exact hP, va_K.moved hW.alike hK, hD⟩, hS.F ht⟩) hS.2.2 dX10_riderOf_25
set_option maxHeartbeats 8000000 in
set_option maxRecDepth 100000 in
theorem k_X10_vanOf (l : Launch) (dC : Nat → ClassId) (dI : Nat → Nat → Nat) (cs : Nat → ClassId) (ad : Nat → Nat) (en : Nat → Nat) (sz : Nat) (S1 : T5) (p1 : Int32) (p2 : Int32) (r : Int32) (hR : fX10_vanOf S1 p1 p2 = some r) : Met l yX10_vanOf wsX10_vanOf ({ frames := 2, cells := 0, slots := 0, locals := 43 } : Room) (va_Pc [.ref (ad 0), .int p1, .int p2] (pW dC dI (tyL cs) (fl [(w_X10 ad (0) cs en S1)]) sz)) (QI dC dI (tyL cs) (va_A (fl [(w_X10 ad (0) cs en S1)]) sz) (fl [(w_X10 ad (0) cs en S1)]) r) 0 0 (va_A (fl [(w_X10 ad (0) cs en S1)]) sz) := by
  refine mt_of (own := RX10) (cc := cX10_vanOf) (maxL := 3) (ret := (some .int)) (Qc := fun A => QI dC dI (tyL cs) A (fl [(w_X10 ad (0) cs en S1)]) r) rfl (by decide) rfl (Nat.le_of_ble_eq_true rfl) (fun p e s m below meth c A ls hsz hx hb hr hts hown hlocks hml hA hK hP hD hS hl => ?_)
  subst hsz
  have hl : lv_has ls 3 [(0, .ref (ad 0)), (1, .int p1), (2, .int p2)] := hl
  have hF10 := hts (.fieldLink RX10 10 "DockedBikes" "now" "LDockedBikes$Road;") (List.mem_of_getElem? (i := 1) rfl)
  have hF115 := hts (.fieldLink RX10 115 "DockedBikes$Road" "bicycles" "LDockedBikes$Bicycles;") (List.mem_of_getElem? (i := 5) rfl)
  have hF172 := hts (.fieldLink RX10 172 "DockedBikes$Road" "time" "I") (List.mem_of_getElem? (i := 6) rfl)
  have hF185 := hts (.fieldLink RX10 185 "DockedBikes$Road" "vans" "LDockedBikes$Vans;") (List.mem_of_getElem? (i := 2) rfl)
  have hF192 := hts (.fieldLink RX10 192 "DockedBikes$Vans" "station" "[I") (List.mem_of_getElem? (i := 3) rfl)
  have hF195 := hts (.fieldLink RX10 195 "DockedBikes$Vans" "room" "[I") (List.mem_of_getElem? (i := 4) rfl)
  have hinX10 : ∀ w ∈ wsX100, w ∈ wsX10_vanOf := by decide +kernel
  have hinX5 : ∀ w ∈ wsX50, w ∈ wsX10_vanOf := by decide +kernel
  have hinX8 : ∀ w ∈ wsX80, w ∈ wsX10_vanOf := by decide +kernel
  refine lv_aload_n hx hb dX10_vanOf_0 rfl (lv_at hl 0 rfl) ?_
  refine va_get (D := (dC, dI)) (ci := 8) (v := .ref (ad (0 + 1))) (C := RX10) (T := TX10) (N := 7) hx hb hts hinX10 hown hK hP 0 rfl rfl 0 (by decide) hF10 (fun _ h9 => h9) rfl dX10_vanOf_1 ?_
  refine va_get (D := (dC, dI)) (ci := 4) (v := .ref (ad (0 + 1 + 23))) (C := RX5) (T := TX5) (N := 6) hx hb hts hinX5 hown hK hP 1 rfl rfl 3 (by decide) hF185 (fun _ h9 => h9) rfl dX10_vanOf_4 ?_
  refine lv_iload_n hx hb dX10_vanOf_7 rfl (lv_at hl 1 rfl) ?_
  replace hR := bd_e hR
  obtain ⟨q8, gq8, hR⟩ := hR
  replace hP : va_P (dC, dI) vwCl (fl [[((ad 0), .inr (8, [.ref (ad (0 + 1)), .ref (ad (0 + 29)), .ref (ad (0 + 57)), .int (S1 1 3 2 0 0), .ref (ad (0 + 85)), .ref (ad (0 + 199)), .ref (ad (0 + 202))]))], [((ad (0 + 1)), .inr (4, [.ref (ad (0 + 1 + 1)), .ref (ad (0 + 1 + 6)), .ref (ad (0 + 1 + 13)), .ref (ad (0 + 1 + 23)), .ref (ad (0 + 1 + 27)), .int ((S1 1 0) 4 1 0)]))], (w_X6 ad (0 + 1 + 1) cs ((S1 1 0) 0)), (w_X1 ad (0 + 1 + 6) cs ((S1 1 0) 1)), (w_X4 ad (0 + 1 + 13) cs ((S1 1 0) 2)), (w_X8 ad (0 + 1 + 23) cs ((S1 1 0) 3)), [((ad (0 + 1 + 27)), .inl (cs 0, 3, .inl ((S1 1 0) 4 0)))], (w_X5 ad (0 + 29) cs (S1 1 1)), (w_X5 ad (0 + 57) cs (S1 1 2)), (w_X3 ad (0 + 85) cs (S1 0)), (w_X2 ad (0 + 199) cs (S1 1 3 0)), (w_X7 ad (0 + 202) cs en (S1 1 3 1))]) s.heap := hP
  replace hD : va_D A (fl [[((ad 0), .inr (8, [.ref (ad (0 + 1)), .ref (ad (0 + 29)), .ref (ad (0 + 57)), .int (S1 1 3 2 0 0), .ref (ad (0 + 85)), .ref (ad (0 + 199)), .ref (ad (0 + 202))]))], [((ad (0 + 1)), .inr (4, [.ref (ad (0 + 1 + 1)), .ref (ad (0 + 1 + 6)), .ref (ad (0 + 1 + 13)), .ref (ad (0 + 1 + 23)), .ref (ad (0 + 1 + 27)), .int ((S1 1 0) 4 1 0)]))], (w_X6 ad (0 + 1 + 1) cs ((S1 1 0) 0)), (w_X1 ad (0 + 1 + 6) cs ((S1 1 0) 1)), (w_X4 ad (0 + 1 + 13) cs ((S1 1 0) 2)), (w_X8 ad (0 + 1 + 23) cs ((S1 1 0) 3)), [((ad (0 + 1 + 27)), .inl (cs 0, 3, .inl ((S1 1 0) 4 0)))], (w_X5 ad (0 + 29) cs (S1 1 1)), (w_X5 ad (0 + 57) cs (S1 1 2)), (w_X3 ad (0 + 85) cs (S1 0)), (w_X2 ad (0 + 199) cs (S1 1 3 0)), (w_X7 ad (0 + 202) cs en (S1 1 3 1))]) := hD
  refine cl_Vi (As := [.int p1]) (rest := []) (L := [[((ad 0), .inr (8, [.ref (ad (0 + 1)), .ref (ad (0 + 29)), .ref (ad (0 + 57)), .int (S1 1 3 2 0 0), .ref (ad (0 + 85)), .ref (ad (0 + 199)), .ref (ad (0 + 202))]))], [((ad (0 + 1)), .inr (4, [.ref (ad (0 + 1 + 1)), .ref (ad (0 + 1 + 6)), .ref (ad (0 + 1 + 13)), .ref (ad (0 + 1 + 23)), .ref (ad (0 + 1 + 27)), .int ((S1 1 0) 4 1 0)]))], (w_X6 ad (0 + 1 + 1) cs ((S1 1 0) 0)), (w_X1 ad (0 + 1 + 6) cs ((S1 1 0) 1)), (w_X4 ad (0 + 1 + 13) cs ((S1 1 0) 2)), (w_X8 ad (0 + 1 + 23) cs ((S1 1 0) 3)), [((ad (0 + 1 + 27)), .inl (cs 0, 3, .inl ((S1 1 0) 4 0)))], (w_X5 ad (0 + 29) cs (S1 1 1)), (w_X5 ad (0 + 57) cs (S1 1 2)), (w_X3 ad (0 + 85) cs (S1 0)), (w_X2 ad (0 + 199) cs (S1 1 3 0)), (w_X7 ad (0 + 202) cs en (S1 1 3 1))]) (L' := [[((ad 0), .inr (8, [.ref (ad (0 + 1)), .ref (ad (0 + 29)), .ref (ad (0 + 57)), .int (S1 1 3 2 0 0), .ref (ad (0 + 85)), .ref (ad (0 + 199)), .ref (ad (0 + 202))]))], [((ad (0 + 1)), .inr (4, [.ref (ad (0 + 1 + 1)), .ref (ad (0 + 1 + 6)), .ref (ad (0 + 1 + 13)), .ref (ad (0 + 1 + 23)), .ref (ad (0 + 1 + 27)), .int ((S1 1 0) 4 1 0)]))], (w_X6 ad (0 + 1 + 1) cs ((S1 1 0) 0)), (w_X1 ad (0 + 1 + 6) cs ((S1 1 0) 1)), (w_X4 ad (0 + 1 + 13) cs ((S1 1 0) 2)), (w_X8 ad (0 + 1 + 23) cs ((S1 1 0) 3)), [((ad (0 + 1 + 27)), .inl (cs 0, 3, .inl ((S1 1 0) 4 0)))], (w_X5 ad (0 + 29) cs (S1 1 1)), (w_X5 ad (0 + 57) cs (S1 1 2)), (w_X3 ad (0 + 85) cs (S1 0)), (w_X2 ad (0 + 199) cs (S1 1 3 0)), (w_X7 ad (0 + 202) cs en (S1 1 3 1))]) (Wc := [(w_X8 ad (0 + 1 + 23) cs ((S1 1 0) 3))]) (Wc' := [(w_X8 ad (0 + 1 + 23) cs (S1 1 0 3))]) (is := [5]) (js := [0, 1, 2, 3, 4, 6, 7, 8, 9, 10, 11]) ⟨hx, hb, hml, hown, hts⟩ (k_X8_has l dC dI cs ad (0 + 1 + 23) s.heap.size (S1 1 0 3) p1 q8 gq8) (cwV 1 hts gX10_vanOf_X8_has rfl rfl rfl cd_X8_has ⟨Nat.le_of_ble_eq_true rfl, Nat.le_of_ble_eq_true rfl⟩) hK hP hD hS hA ⟨rfl, rfl, rfl, rfl, rfl, rfl⟩ (jn_nd (is := [5]) hD rfl rfl) 24 7 rfl rfl rfl rfl rfl hl.1 (Nat.le_of_ble_eq_true rfl) dX10_vanOf_8 (fun H8 locs8 hP' hD' hS' => ?_)
  replace hS := hS'
  replace hP : va_P (dC, dI) vwCl (fl [(w_X10 ad (0) cs en S1)]) H8 := hP'
  replace hD : va_D A (fl [(w_X10 ad (0) cs en S1)]) := hD'
  clear hP' hD' hS'
  refine lv_if_ne (tgt := 16) hx hb dX10_vanOf_11 (by decide) (fun c11 => ?_) (fun c11 => ?_)
  · replace hR := it_f hR c11
    refine lv_iload_n hx hb dX10_vanOf_16 rfl (lv_at hl 2 rfl) ?_
    by_cases c17_0 : p2 = 0
    · replace hR := it_t hR c17_0
      refine lv_tableIn (off := 31) (tgt := 48) hx hb dX10_vanOf_17 (by rw [c17_0]; decide) (by rw [c17_0]; decide) (by rw [c17_0]; rfl) (by decide) ?_
      refine lv_aload_n hx hb dX10_vanOf_48 rfl (lv_at hl 0 rfl) ?_
      refine va_get (D := (dC, dI)) (ci := 8) (v := .ref (ad (0 + 1))) (C := RX10) (T := TX10) (N := 7) hx hb hts hinX10 hown hK hP 0 rfl rfl 0 (by decide) hF10 (fun _ h9 => h9) rfl dX10_vanOf_49 ?_
      refine va_get (D := (dC, dI)) (ci := 4) (v := .ref (ad (0 + 1 + 23))) (C := RX5) (T := TX5) (N := 6) hx hb hts hinX5 hown hK hP 1 rfl rfl 3 (by decide) hF185 (fun _ h9 => h9) rfl dX10_vanOf_52 ?_
      refine va_get (D := (dC, dI)) (ci := 7) (v := .ref (ad (0 + 1 + 23 + 1))) (C := RX8) (T := TX8) (N := 4) hx hb hts hinX8 hown hK hP 24 rfl rfl 1 (by decide) hF192 (fun _ h9 => h9) rfl dX10_vanOf_55 ?_
      refine lv_iload_n hx hb dX10_vanOf_58 rfl (lv_at hl 1 rfl) ?_
      replace hR := gi_e hR
      obtain ⟨i59, hR⟩ := hR
      refine va_iald hx hb hK hP 25 0 rfl rfl i59 dX10_vanOf_59 ?_
      replace hR := Option.some.inj hR
      have e9 := hR
      exact W.iret hx hb hr (fun t ht hW => ⟨⟨_, (), rfl, e9, by rw [ht]; exact hP, va_K.moved hW.alike hK, hD⟩, hS.F ht⟩) hS.2.2 dX10_vanOf_60
    · replace hR := it_f hR c17_0
      by_cases c17_1 : p2 = 1
      · replace hR := it_t hR c17_1
        refine lv_tableIn (off := 44) (tgt := 61) hx hb dX10_vanOf_17 (by rw [c17_1]; decide) (by rw [c17_1]; decide) (by rw [c17_1]; rfl) (by decide) ?_
        refine lv_aload_n hx hb dX10_vanOf_61 rfl (lv_at hl 0 rfl) ?_
        refine va_get (D := (dC, dI)) (ci := 8) (v := .ref (ad (0 + 1))) (C := RX10) (T := TX10) (N := 7) hx hb hts hinX10 hown hK hP 0 rfl rfl 0 (by decide) hF10 (fun _ h9 => h9) rfl dX10_vanOf_62 ?_
        refine va_get (D := (dC, dI)) (ci := 4) (v := .ref (ad (0 + 1 + 23))) (C := RX5) (T := TX5) (N := 6) hx hb hts hinX5 hown hK hP 1 rfl rfl 3 (by decide) hF185 (fun _ h9 => h9) rfl dX10_vanOf_65 ?_
        refine va_get (D := (dC, dI)) (ci := 7) (v := .ref (ad (0 + 1 + 23 + 2))) (C := RX8) (T := TX8) (N := 4) hx hb hts hinX8 hown hK hP 24 rfl rfl 2 (by decide) hF195 (fun _ h9 => h9) rfl dX10_vanOf_68 ?_
        refine lv_iload_n hx hb dX10_vanOf_71 rfl (lv_at hl 1 rfl) ?_
        replace hR := gi_e hR
        obtain ⟨i72, hR⟩ := hR
        refine va_iald hx hb hK hP 26 0 rfl rfl i72 dX10_vanOf_72 ?_
        replace hR := Option.some.inj hR
        have e9 := hR
        exact W.iret hx hb hr (fun t ht hW => ⟨⟨_, (), rfl, e9, by rw [ht]; exact hP, va_K.moved hW.alike hK, hD⟩, hS.F ht⟩) hS.2.2 dX10_vanOf_73
      · replace hR := it_f hR c17_1
        by_cases c17_2 : p2 = 2
        · replace hR := it_t hR c17_2
          refine lv_tableIn (off := 57) (tgt := 74) hx hb dX10_vanOf_17 (by rw [c17_2]; decide) (by rw [c17_2]; decide) (by rw [c17_2]; rfl) (by decide) ?_
          refine lv_aload_n hx hb dX10_vanOf_74 rfl (lv_at hl 0 rfl) ?_
          refine va_get (D := (dC, dI)) (ci := 8) (v := .ref (ad (0 + 1))) (C := RX10) (T := TX10) (N := 7) hx hb hts hinX10 hown hK hP 0 rfl rfl 0 (by decide) hF10 (fun _ h9 => h9) rfl dX10_vanOf_75 ?_
          refine va_get (D := (dC, dI)) (ci := 4) (v := .ref (ad (0 + 1 + 6))) (C := RX5) (T := TX5) (N := 6) hx hb hts hinX5 hown hK hP 1 rfl rfl 1 (by decide) hF115 (fun _ h9 => h9) rfl dX10_vanOf_78 ?_
          refine lv_iconst (v := 2) hx hb dX10_vanOf_81 ic_2 ?_
          refine lv_iload_n hx hb dX10_vanOf_82 rfl (lv_at hl 1 rfl) ?_
          replace hR := bd_e hR
          obtain ⟨q83, gq83, hR⟩ := hR
          replace hP : va_P (dC, dI) vwCl (fl [[((ad 0), .inr (8, [.ref (ad (0 + 1)), .ref (ad (0 + 29)), .ref (ad (0 + 57)), .int (S1 1 3 2 0 0), .ref (ad (0 + 85)), .ref (ad (0 + 199)), .ref (ad (0 + 202))]))], [((ad (0 + 1)), .inr (4, [.ref (ad (0 + 1 + 1)), .ref (ad (0 + 1 + 6)), .ref (ad (0 + 1 + 13)), .ref (ad (0 + 1 + 23)), .ref (ad (0 + 1 + 27)), .int ((S1 1 0) 4 1 0)]))], (w_X6 ad (0 + 1 + 1) cs ((S1 1 0) 0)), (w_X1 ad (0 + 1 + 6) cs ((S1 1 0) 1)), (w_X4 ad (0 + 1 + 13) cs ((S1 1 0) 2)), (w_X8 ad (0 + 1 + 23) cs ((S1 1 0) 3)), [((ad (0 + 1 + 27)), .inl (cs 0, 3, .inl ((S1 1 0) 4 0)))], (w_X5 ad (0 + 29) cs (S1 1 1)), (w_X5 ad (0 + 57) cs (S1 1 2)), (w_X3 ad (0 + 85) cs (S1 0)), (w_X2 ad (0 + 199) cs (S1 1 3 0)), (w_X7 ad (0 + 202) cs en (S1 1 3 1))]) H8 := hP
          replace hD : va_D A (fl [[((ad 0), .inr (8, [.ref (ad (0 + 1)), .ref (ad (0 + 29)), .ref (ad (0 + 57)), .int (S1 1 3 2 0 0), .ref (ad (0 + 85)), .ref (ad (0 + 199)), .ref (ad (0 + 202))]))], [((ad (0 + 1)), .inr (4, [.ref (ad (0 + 1 + 1)), .ref (ad (0 + 1 + 6)), .ref (ad (0 + 1 + 13)), .ref (ad (0 + 1 + 23)), .ref (ad (0 + 1 + 27)), .int ((S1 1 0) 4 1 0)]))], (w_X6 ad (0 + 1 + 1) cs ((S1 1 0) 0)), (w_X1 ad (0 + 1 + 6) cs ((S1 1 0) 1)), (w_X4 ad (0 + 1 + 13) cs ((S1 1 0) 2)), (w_X8 ad (0 + 1 + 23) cs ((S1 1 0) 3)), [((ad (0 + 1 + 27)), .inl (cs 0, 3, .inl ((S1 1 0) 4 0)))], (w_X5 ad (0 + 29) cs (S1 1 1)), (w_X5 ad (0 + 57) cs (S1 1 2)), (w_X3 ad (0 + 85) cs (S1 0)), (w_X2 ad (0 + 199) cs (S1 1 3 0)), (w_X7 ad (0 + 202) cs en (S1 1 3 1))]) := hD
          refine cl_Vi (As := [.int (2 : Int32), .int p1]) (rest := []) (L := [[((ad 0), .inr (8, [.ref (ad (0 + 1)), .ref (ad (0 + 29)), .ref (ad (0 + 57)), .int (S1 1 3 2 0 0), .ref (ad (0 + 85)), .ref (ad (0 + 199)), .ref (ad (0 + 202))]))], [((ad (0 + 1)), .inr (4, [.ref (ad (0 + 1 + 1)), .ref (ad (0 + 1 + 6)), .ref (ad (0 + 1 + 13)), .ref (ad (0 + 1 + 23)), .ref (ad (0 + 1 + 27)), .int ((S1 1 0) 4 1 0)]))], (w_X6 ad (0 + 1 + 1) cs ((S1 1 0) 0)), (w_X1 ad (0 + 1 + 6) cs ((S1 1 0) 1)), (w_X4 ad (0 + 1 + 13) cs ((S1 1 0) 2)), (w_X8 ad (0 + 1 + 23) cs ((S1 1 0) 3)), [((ad (0 + 1 + 27)), .inl (cs 0, 3, .inl ((S1 1 0) 4 0)))], (w_X5 ad (0 + 29) cs (S1 1 1)), (w_X5 ad (0 + 57) cs (S1 1 2)), (w_X3 ad (0 + 85) cs (S1 0)), (w_X2 ad (0 + 199) cs (S1 1 3 0)), (w_X7 ad (0 + 202) cs en (S1 1 3 1))]) (L' := [[((ad 0), .inr (8, [.ref (ad (0 + 1)), .ref (ad (0 + 29)), .ref (ad (0 + 57)), .int (S1 1 3 2 0 0), .ref (ad (0 + 85)), .ref (ad (0 + 199)), .ref (ad (0 + 202))]))], [((ad (0 + 1)), .inr (4, [.ref (ad (0 + 1 + 1)), .ref (ad (0 + 1 + 6)), .ref (ad (0 + 1 + 13)), .ref (ad (0 + 1 + 23)), .ref (ad (0 + 1 + 27)), .int ((S1 1 0) 4 1 0)]))], (w_X6 ad (0 + 1 + 1) cs ((S1 1 0) 0)), (w_X1 ad (0 + 1 + 6) cs ((S1 1 0) 1)), (w_X4 ad (0 + 1 + 13) cs ((S1 1 0) 2)), (w_X8 ad (0 + 1 + 23) cs ((S1 1 0) 3)), [((ad (0 + 1 + 27)), .inl (cs 0, 3, .inl ((S1 1 0) 4 0)))], (w_X5 ad (0 + 29) cs (S1 1 1)), (w_X5 ad (0 + 57) cs (S1 1 2)), (w_X3 ad (0 + 85) cs (S1 0)), (w_X2 ad (0 + 199) cs (S1 1 3 0)), (w_X7 ad (0 + 202) cs en (S1 1 3 1))]) (Wc := [(w_X1 ad (0 + 1 + 6) cs ((S1 1 0) 1))]) (Wc' := [(w_X1 ad (0 + 1 + 6) cs (S1 1 0 1))]) (is := [3]) (js := [0, 1, 2, 4, 5, 6, 7, 8, 9, 10, 11]) ⟨hx, hb, hml, hown, hts⟩ (k_X1_setAt l dC dI cs ad (0 + 1 + 6) H8.size (S1 1 0 1) (2 : Int32) p1 q83 gq83) (cwV 2 hts gX10_vanOf_X1_setAt rfl rfl rfl cd_X1_setAt ⟨Nat.le_of_ble_eq_true rfl, Nat.le_of_ble_eq_true rfl⟩) hK hP hD hS hA ⟨rfl, rfl, rfl, rfl, rfl, rfl⟩ (jn_nd (is := [3]) hD rfl rfl) 7 0 rfl rfl rfl rfl rfl hl.1 (Nat.le_of_ble_eq_true rfl) dX10_vanOf_83 (fun H83 locs83 hP' hD' hS' => ?_)
          replace hS := hS'
          replace hP : va_P (dC, dI) vwCl (fl [(w_X10 ad (0) cs en S1)]) H83 := hP'
          replace hD : va_D A (fl [(w_X10 ad (0) cs en S1)]) := hD'
          clear hP' hD' hS'
          replace hR := Option.some.inj hR
          have e9 := hR
          exact W.iret hx hb hr (fun t ht hW => ⟨⟨_, (), rfl, e9, by rw [ht]; exact hP, va_K.moved hW.alike hK, hD⟩, hS.F ht⟩) hS.2.2 dX10_vanOf_86
        · replace hR := it_f hR c17_2
          by_cases c17_3 : p2 = 3
          · replace hR := it_t hR c17_3
            refine lv_tableIn (off := 70) (tgt := 87) hx hb dX10_vanOf_17 (by rw [c17_3]; decide) (by rw [c17_3]; decide) (by rw [c17_3]; rfl) (by decide) ?_
            refine lv_aload_n hx hb dX10_vanOf_87 rfl (lv_at hl 0 rfl) ?_
            refine va_get (D := (dC, dI)) (ci := 8) (v := .ref (ad (0 + 1))) (C := RX10) (T := TX10) (N := 7) hx hb hts hinX10 hown hK hP 0 rfl rfl 0 (by decide) hF10 (fun _ h9 => h9) rfl dX10_vanOf_88 ?_
            refine va_get (D := (dC, dI)) (ci := 4) (v := .ref (ad (0 + 1 + 23))) (C := RX5) (T := TX5) (N := 6) hx hb hts hinX5 hown hK hP 1 rfl rfl 3 (by decide) hF185 (fun _ h9 => h9) rfl dX10_vanOf_91 ?_
            refine lv_iload_n hx hb dX10_vanOf_94 rfl (lv_at hl 1 rfl) ?_
            refine lv_aload_n hx hb dX10_vanOf_95 rfl (lv_at hl 0 rfl) ?_
            refine va_get (D := (dC, dI)) (ci := 8) (v := .ref (ad (0 + 1))) (C := RX10) (T := TX10) (N := 7) hx hb hts hinX10 hown hK hP 0 rfl rfl 0 (by decide) hF10 (fun _ h9 => h9) rfl dX10_vanOf_96 ?_
            refine va_get (D := (dC, dI)) (ci := 4) (v := .int (S1 1 0 4 1 0)) (C := RX5) (T := TX5) (N := 6) hx hb hts hinX5 hown hK hP 1 rfl rfl 5 (by decide) hF172 (fun _ h9 => h9) rfl dX10_vanOf_99 ?_
            replace hR := bd_e hR
            obtain ⟨q102, gq102, hR⟩ := hR
            replace hP : va_P (dC, dI) vwCl (fl [[((ad 0), .inr (8, [.ref (ad (0 + 1)), .ref (ad (0 + 29)), .ref (ad (0 + 57)), .int (S1 1 3 2 0 0), .ref (ad (0 + 85)), .ref (ad (0 + 199)), .ref (ad (0 + 202))]))], [((ad (0 + 1)), .inr (4, [.ref (ad (0 + 1 + 1)), .ref (ad (0 + 1 + 6)), .ref (ad (0 + 1 + 13)), .ref (ad (0 + 1 + 23)), .ref (ad (0 + 1 + 27)), .int ((S1 1 0) 4 1 0)]))], (w_X6 ad (0 + 1 + 1) cs ((S1 1 0) 0)), (w_X1 ad (0 + 1 + 6) cs ((S1 1 0) 1)), (w_X4 ad (0 + 1 + 13) cs ((S1 1 0) 2)), (w_X8 ad (0 + 1 + 23) cs ((S1 1 0) 3)), [((ad (0 + 1 + 27)), .inl (cs 0, 3, .inl ((S1 1 0) 4 0)))], (w_X5 ad (0 + 29) cs (S1 1 1)), (w_X5 ad (0 + 57) cs (S1 1 2)), (w_X3 ad (0 + 85) cs (S1 0)), (w_X2 ad (0 + 199) cs (S1 1 3 0)), (w_X7 ad (0 + 202) cs en (S1 1 3 1))]) H8 := hP
            replace hD : va_D A (fl [[((ad 0), .inr (8, [.ref (ad (0 + 1)), .ref (ad (0 + 29)), .ref (ad (0 + 57)), .int (S1 1 3 2 0 0), .ref (ad (0 + 85)), .ref (ad (0 + 199)), .ref (ad (0 + 202))]))], [((ad (0 + 1)), .inr (4, [.ref (ad (0 + 1 + 1)), .ref (ad (0 + 1 + 6)), .ref (ad (0 + 1 + 13)), .ref (ad (0 + 1 + 23)), .ref (ad (0 + 1 + 27)), .int ((S1 1 0) 4 1 0)]))], (w_X6 ad (0 + 1 + 1) cs ((S1 1 0) 0)), (w_X1 ad (0 + 1 + 6) cs ((S1 1 0) 1)), (w_X4 ad (0 + 1 + 13) cs ((S1 1 0) 2)), (w_X8 ad (0 + 1 + 23) cs ((S1 1 0) 3)), [((ad (0 + 1 + 27)), .inl (cs 0, 3, .inl ((S1 1 0) 4 0)))], (w_X5 ad (0 + 29) cs (S1 1 1)), (w_X5 ad (0 + 57) cs (S1 1 2)), (w_X3 ad (0 + 85) cs (S1 0)), (w_X2 ad (0 + 199) cs (S1 1 3 0)), (w_X7 ad (0 + 202) cs en (S1 1 3 1))]) := hD
            refine cl_Vi (As := [.int p1, .int (S1 1 0 4 1 0)]) (rest := []) (L := [[((ad 0), .inr (8, [.ref (ad (0 + 1)), .ref (ad (0 + 29)), .ref (ad (0 + 57)), .int (S1 1 3 2 0 0), .ref (ad (0 + 85)), .ref (ad (0 + 199)), .ref (ad (0 + 202))]))], [((ad (0 + 1)), .inr (4, [.ref (ad (0 + 1 + 1)), .ref (ad (0 + 1 + 6)), .ref (ad (0 + 1 + 13)), .ref (ad (0 + 1 + 23)), .ref (ad (0 + 1 + 27)), .int ((S1 1 0) 4 1 0)]))], (w_X6 ad (0 + 1 + 1) cs ((S1 1 0) 0)), (w_X1 ad (0 + 1 + 6) cs ((S1 1 0) 1)), (w_X4 ad (0 + 1 + 13) cs ((S1 1 0) 2)), (w_X8 ad (0 + 1 + 23) cs ((S1 1 0) 3)), [((ad (0 + 1 + 27)), .inl (cs 0, 3, .inl ((S1 1 0) 4 0)))], (w_X5 ad (0 + 29) cs (S1 1 1)), (w_X5 ad (0 + 57) cs (S1 1 2)), (w_X3 ad (0 + 85) cs (S1 0)), (w_X2 ad (0 + 199) cs (S1 1 3 0)), (w_X7 ad (0 + 202) cs en (S1 1 3 1))]) (L' := [[((ad 0), .inr (8, [.ref (ad (0 + 1)), .ref (ad (0 + 29)), .ref (ad (0 + 57)), .int (S1 1 3 2 0 0), .ref (ad (0 + 85)), .ref (ad (0 + 199)), .ref (ad (0 + 202))]))], [((ad (0 + 1)), .inr (4, [.ref (ad (0 + 1 + 1)), .ref (ad (0 + 1 + 6)), .ref (ad (0 + 1 + 13)), .ref (ad (0 + 1 + 23)), .ref (ad (0 + 1 + 27)), .int ((S1 1 0) 4 1 0)]))], (w_X6 ad (0 + 1 + 1) cs ((S1 1 0) 0)), (w_X1 ad (0 + 1 + 6) cs ((S1 1 0) 1)), (w_X4 ad (0 + 1 + 13) cs ((S1 1 0) 2)), (w_X8 ad (0 + 1 + 23) cs ((S1 1 0) 3)), [((ad (0 + 1 + 27)), .inl (cs 0, 3, .inl ((S1 1 0) 4 0)))], (w_X5 ad (0 + 29) cs (S1 1 1)), (w_X5 ad (0 + 57) cs (S1 1 2)), (w_X3 ad (0 + 85) cs (S1 0)), (w_X2 ad (0 + 199) cs (S1 1 3 0)), (w_X7 ad (0 + 202) cs en (S1 1 3 1))]) (Wc := [(w_X8 ad (0 + 1 + 23) cs ((S1 1 0) 3))]) (Wc' := [(w_X8 ad (0 + 1 + 23) cs (S1 1 0 3))]) (is := [5]) (js := [0, 1, 2, 3, 4, 6, 7, 8, 9, 10, 11]) ⟨hx, hb, hml, hown, hts⟩ (k_X8_minutesLeft l dC dI cs ad (0 + 1 + 23) H8.size (S1 1 0 3) p1 (S1 1 0 4 1 0) q102 gq102) (cwV 2 hts gX10_vanOf_X8_minutesLeft rfl rfl rfl cd_X8_minutesLeft ⟨Nat.le_of_ble_eq_true rfl, Nat.le_of_ble_eq_true rfl⟩) hK hP hD hS hA ⟨rfl, rfl, rfl, rfl, rfl, rfl⟩ (jn_nd (is := [5]) hD rfl rfl) 24 7 rfl rfl rfl rfl rfl hl.1 (Nat.le_of_ble_eq_true rfl) dX10_vanOf_102 (fun H102 locs102 hP' hD' hS' => ?_)
            replace hS := hS'
            replace hP : va_P (dC, dI) vwCl (fl [(w_X10 ad (0) cs en S1)]) H102 := hP'
            replace hD : va_D A (fl [(w_X10 ad (0) cs en S1)]) := hD'
            clear hP' hD' hS'
            replace hR := Option.some.inj hR
            have e9 := hR
            exact W.iret hx hb hr (fun t ht hW => ⟨⟨_, (), rfl, e9, by rw [ht]; exact hP, va_K.moved hW.alike hK, hD⟩, hS.F ht⟩) hS.2.2 dX10_vanOf_105
          · replace hR := it_f hR c17_3
            refine lv_tableOut (tgt := 106) hx hb dX10_vanOf_17 (by have n0 := lv_neT (a := 0) c17_0 rfl; have n1 := lv_neT (a := 1) c17_1 rfl; have n2 := lv_neT (a := 2) c17_2 rfl; have n3 := lv_neT (a := 3) c17_3 rfl; omega) (by decide) ?_
            refine lv_iconst (v := (-1)) hx hb dX10_vanOf_106 ic_m1 ?_
            replace hR := Option.some.inj hR
            have e9 := hR
            exact W.iret hx hb hr (fun t ht hW => ⟨⟨_, (), rfl, e9, by rw [ht]; exact hP, va_K.moved hW.alike hK, hD⟩, hS.F ht⟩) hS.2.2 dX10_vanOf_107
  · replace hR := it_t hR c11
    refine lv_iconst (v := (-1)) hx hb dX10_vanOf_14 ic_m1 ?_
    replace hR := Option.some.inj hR
    have e9 := hR
    exact W.iret hx hb hr (fun t ht hW => ⟨⟨_, (), rfl, e9, by rw [ht]; exact hP, va_K.moved hW.alike hK, hD⟩, hS.F ht⟩) hS.2.2 dX10_vanOf_15
set_option maxHeartbeats 8000000 in
set_option maxRecDepth 100000 in
theorem k_X10_count (l : Launch) (dC : Nat → ClassId) (dI : Nat → Nat → Nat) (cs : Nat → ClassId) (ad : Nat → Nat) (en : Nat → Nat) (sz : Nat) (S1 : T5) (p1 : Int32) (r : Int32) (hR : fX10_count S1 p1 = some r) : Met l yX10_count wsX10_count ({ frames := 4, cells := 0, slots := 0, locals := 88 } : Room) (va_Pc [.ref (ad 0), .int p1] (pW dC dI (tyL cs) (fl [(w_X10 ad (0) cs en S1)]) sz)) (QI dC dI (tyL cs) (va_A (fl [(w_X10 ad (0) cs en S1)]) sz) (fl [(w_X10 ad (0) cs en S1)]) r) 0 0 (va_A (fl [(w_X10 ad (0) cs en S1)]) sz) := by
  refine mt_of (own := RX10) (cc := cX10_count) (maxL := 2) (ret := (some .int)) (Qc := fun A => QI dC dI (tyL cs) A (fl [(w_X10 ad (0) cs en S1)]) r) rfl (by decide) rfl (Nat.le_of_ble_eq_true rfl) (fun p e s m below meth c A ls hsz hx hb hr hts hown hlocks hml hA hK hP hD hS hl => ?_)
  subst hsz
  have hl : lv_has ls 2 [(0, .ref (ad 0)), (1, .int p1)] := hl
  have hF10 := hts (.fieldLink RX10 10 "DockedBikes" "now" "LDockedBikes$Road;") (List.mem_of_getElem? (i := 1) rfl)
  have hF25 := hts (.fieldLink RX10 25 "DockedBikes" "history" "LDockedBikes$History;") (List.mem_of_getElem? (i := 12) rfl)
  have hF39 := hts (.fieldLink RX10 39 "DockedBikes" "text" "LDockedBikes$Text;") (List.mem_of_getElem? (i := 14) rfl)
  have hF98 := hts (.fieldLink RX10 98 "DockedBikes$Road" "stations" "LDockedBikes$Stations;") (List.mem_of_getElem? (i := 3) rfl)
  have hF115 := hts (.fieldLink RX10 115 "DockedBikes$Road" "bicycles" "LDockedBikes$Bicycles;") (List.mem_of_getElem? (i := 5) rfl)
  have hF153 := hts (.fieldLink RX10 153 "DockedBikes$Road" "riders" "LDockedBikes$Riders;") (List.mem_of_getElem? (i := 7) rfl)
  have hF172 := hts (.fieldLink RX10 172 "DockedBikes$Road" "time" "I") (List.mem_of_getElem? (i := 11) rfl)
  have hF185 := hts (.fieldLink RX10 185 "DockedBikes$Road" "vans" "LDockedBikes$Vans;") (List.mem_of_getElem? (i := 9) rfl)
  have hF204 := hts (.fieldLink RX10 204 "DockedBikes$Road" "settings" "[I") (List.mem_of_getElem? (i := 2) rfl)
  have hF207 := hts (.fieldLink RX10 207 "DockedBikes$Stations" "size" "I") (List.mem_of_getElem? (i := 4) rfl)
  have hF210 := hts (.fieldLink RX10 210 "DockedBikes$Bicycles" "size" "I") (List.mem_of_getElem? (i := 6) rfl)
  have hF211 := hts (.fieldLink RX10 211 "DockedBikes$Riders" "size" "I") (List.mem_of_getElem? (i := 8) rfl)
  have hF212 := hts (.fieldLink RX10 212 "DockedBikes$Vans" "size" "I") (List.mem_of_getElem? (i := 10) rfl)
  have hF228 := hts (.fieldLink RX10 228 "DockedBikes$History" "size" "I") (List.mem_of_getElem? (i := 13) rfl)
  have hF229 := hts (.fieldLink RX10 229 "DockedBikes$Text" "length" "I") (List.mem_of_getElem? (i := 15) rfl)
  have hF232 := hts (.fieldLink RX10 232 "DockedBikes" "hasSnapshot" "Z") (List.mem_of_getElem? (i := 16) rfl)
  have hinX1 : ∀ w ∈ wsX10, w ∈ wsX10_count := by decide +kernel
  have hinX10 : ∀ w ∈ wsX100, w ∈ wsX10_count := by decide +kernel
  have hinX3 : ∀ w ∈ wsX30, w ∈ wsX10_count := by decide +kernel
  have hinX4 : ∀ w ∈ wsX40, w ∈ wsX10_count := by decide +kernel
  have hinX5 : ∀ w ∈ wsX50, w ∈ wsX10_count := by decide +kernel
  have hinX6 : ∀ w ∈ wsX60, w ∈ wsX10_count := by decide +kernel
  have hinX7 : ∀ w ∈ wsX70, w ∈ wsX10_count := by decide +kernel
  have hinX8 : ∀ w ∈ wsX80, w ∈ wsX10_count := by decide +kernel
  refine lv_aload_n hx hb dX10_count_0 rfl (lv_at hl 0 rfl) ?_
  refine va_get (D := (dC, dI)) (ci := 8) (v := .ref (ad (0 + 1))) (C := RX10) (T := TX10) (N := 7) hx hb hts hinX10 hown hK hP 0 rfl rfl 0 (by decide) hF10 (fun _ h9 => h9) rfl dX10_count_1 ?_
  refine lv_iload_n hx hb dX10_count_4 rfl (lv_at hl 1 rfl) ?_
  refine lv_bipush (v := 20) hx hb dX10_count_5 bp_20 ?_
  refine lv_isub hx hb dX10_count_7 ?_
  replace hR := bd_e hR
  obtain ⟨q8, gq8, hR⟩ := hR
  replace hP : va_P (dC, dI) vwCl (fl [[((ad 0), .inr (8, [.ref (ad (0 + 1)), .ref (ad (0 + 29)), .ref (ad (0 + 57)), .int (S1 1 3 2 0 0), .ref (ad (0 + 85)), .ref (ad (0 + 199)), .ref (ad (0 + 202))]))], (w_X5 ad (0 + 1) cs (S1 1 0)), (w_X5 ad (0 + 29) cs (S1 1 1)), (w_X5 ad (0 + 57) cs (S1 1 2)), (w_X3 ad (0 + 85) cs (S1 0)), (w_X2 ad (0 + 199) cs (S1 1 3 0)), (w_X7 ad (0 + 202) cs en (S1 1 3 1))]) s.heap := hP
  replace hD : va_D A (fl [[((ad 0), .inr (8, [.ref (ad (0 + 1)), .ref (ad (0 + 29)), .ref (ad (0 + 57)), .int (S1 1 3 2 0 0), .ref (ad (0 + 85)), .ref (ad (0 + 199)), .ref (ad (0 + 202))]))], (w_X5 ad (0 + 1) cs (S1 1 0)), (w_X5 ad (0 + 29) cs (S1 1 1)), (w_X5 ad (0 + 57) cs (S1 1 2)), (w_X3 ad (0 + 85) cs (S1 0)), (w_X2 ad (0 + 199) cs (S1 1 3 0)), (w_X7 ad (0 + 202) cs en (S1 1 3 1))]) := hD
  refine cl_Vi (As := [.int (p1 - 20)]) (rest := []) (L := [[((ad 0), .inr (8, [.ref (ad (0 + 1)), .ref (ad (0 + 29)), .ref (ad (0 + 57)), .int (S1 1 3 2 0 0), .ref (ad (0 + 85)), .ref (ad (0 + 199)), .ref (ad (0 + 202))]))], (w_X5 ad (0 + 1) cs (S1 1 0)), (w_X5 ad (0 + 29) cs (S1 1 1)), (w_X5 ad (0 + 57) cs (S1 1 2)), (w_X3 ad (0 + 85) cs (S1 0)), (w_X2 ad (0 + 199) cs (S1 1 3 0)), (w_X7 ad (0 + 202) cs en (S1 1 3 1))]) (L' := [[((ad 0), .inr (8, [.ref (ad (0 + 1)), .ref (ad (0 + 29)), .ref (ad (0 + 57)), .int (S1 1 3 2 0 0), .ref (ad (0 + 85)), .ref (ad (0 + 199)), .ref (ad (0 + 202))]))], (w_X5 ad (0 + 1) cs (S1 1 0)), (w_X5 ad (0 + 29) cs (S1 1 1)), (w_X5 ad (0 + 57) cs (S1 1 2)), (w_X3 ad (0 + 85) cs (S1 0)), (w_X2 ad (0 + 199) cs (S1 1 3 0)), (w_X7 ad (0 + 202) cs en (S1 1 3 1))]) (Wc := [(w_X5 ad (0 + 1) cs (S1 1 0))]) (Wc' := [(w_X5 ad (0 + 1) cs (S1 1 0))]) (is := [1]) (js := [0, 2, 3, 4, 5, 6]) ⟨hx, hb, hml, hown, hts⟩ (k_X5_isSetting l dC dI cs ad (0 + 1) s.heap.size (S1 1 0) (p1 - 20) q8 gq8) (cwV 1 hts gX10_count_X5_isSetting rfl rfl rfl cd_X5_isSetting ⟨Nat.le_of_ble_eq_true rfl, Nat.le_of_ble_eq_true rfl⟩) hK hP hD hS hA ⟨rfl, rfl, rfl, rfl, rfl, rfl⟩ (jn_nd (is := [1]) hD rfl rfl) 1 4 rfl rfl rfl rfl rfl hl.1 (Nat.le_of_ble_eq_true rfl) dX10_count_8 (fun H8 locs8 hP' hD' hS' => ?_)
  replace hS := hS'
  replace hP : va_P (dC, dI) vwCl (fl [(w_X10 ad (0) cs en S1)]) H8 := hP'
  replace hD : va_D A (fl [(w_X10 ad (0) cs en S1)]) := hD'
  clear hP' hD' hS'
  refine lv_if_eq (tgt := 27) hx hb dX10_count_11 (by decide) (fun c11 => ?_) (fun c11 => ?_)
  · replace hR := it_t hR c11
    refine lv_iload_n hx hb dX10_count_27 rfl (lv_at hl 1 rfl) ?_
    by_cases c28_0 : p1 = 0
    · replace hR := it_t hR c28_0
      refine lv_tableIn (off := 80) (tgt := 108) hx hb dX10_count_28 (by rw [c28_0]; decide) (by rw [c28_0]; decide) (by rw [c28_0]; rfl) (by decide) ?_
      refine lv_aload_n hx hb dX10_count_108 rfl (lv_at hl 0 rfl) ?_
      refine va_get (D := (dC, dI)) (ci := 8) (v := .ref (ad (0 + 1))) (C := RX10) (T := TX10) (N := 7) hx hb hts hinX10 hown hK hP 0 rfl rfl 0 (by decide) hF10 (fun _ h9 => h9) rfl dX10_count_109 ?_
      refine va_get (D := (dC, dI)) (ci := 4) (v := .ref (ad (0 + 1 + 1))) (C := RX5) (T := TX5) (N := 6) hx hb hts hinX5 hown hK hP 1 rfl rfl 0 (by decide) hF98 (fun _ h9 => h9) rfl dX10_count_112 ?_
      refine va_get (D := (dC, dI)) (ci := 5) (v := .int (S1 1 0 0 4 0)) (C := RX6) (T := TX6) (N := 5) hx hb hts hinX6 hown hK hP 2 rfl rfl 0 (by decide) hF207 (fun _ h9 => h9) rfl dX10_count_115 ?_
      replace hR := Option.some.inj hR
      have e9 := hR
      exact W.iret hx hb hr (fun t ht hW => ⟨⟨_, (), rfl, e9, by rw [ht]; exact hP, va_K.moved hW.alike hK, hD⟩, hS.F ht⟩) hS.2.2 dX10_count_118
    · replace hR := it_f hR c28_0
      by_cases c28_1 : p1 = 1
      · replace hR := it_t hR c28_1
        refine lv_tableIn (off := 91) (tgt := 119) hx hb dX10_count_28 (by rw [c28_1]; decide) (by rw [c28_1]; decide) (by rw [c28_1]; rfl) (by decide) ?_
        refine lv_aload_n hx hb dX10_count_119 rfl (lv_at hl 0 rfl) ?_
        refine va_get (D := (dC, dI)) (ci := 8) (v := .ref (ad (0 + 1))) (C := RX10) (T := TX10) (N := 7) hx hb hts hinX10 hown hK hP 0 rfl rfl 0 (by decide) hF10 (fun _ h9 => h9) rfl dX10_count_120 ?_
        refine va_get (D := (dC, dI)) (ci := 4) (v := .ref (ad (0 + 1 + 6))) (C := RX5) (T := TX5) (N := 6) hx hb hts hinX5 hown hK hP 1 rfl rfl 1 (by decide) hF115 (fun _ h9 => h9) rfl dX10_count_123 ?_
        refine va_get (D := (dC, dI)) (ci := 0) (v := .int (S1 1 0 1 6 0)) (C := RX1) (T := TX1) (N := 7) hx hb hts hinX1 hown hK hP 7 rfl rfl 0 (by decide) hF210 (fun _ h9 => h9) rfl dX10_count_126 ?_
        replace hR := Option.some.inj hR
        have e9 := hR
        exact W.iret hx hb hr (fun t ht hW => ⟨⟨_, (), rfl, e9, by rw [ht]; exact hP, va_K.moved hW.alike hK, hD⟩, hS.F ht⟩) hS.2.2 dX10_count_129
      · replace hR := it_f hR c28_1
        by_cases c28_2 : p1 = 2
        · replace hR := it_t hR c28_2
          refine lv_tableIn (off := 102) (tgt := 130) hx hb dX10_count_28 (by rw [c28_2]; decide) (by rw [c28_2]; decide) (by rw [c28_2]; rfl) (by decide) ?_
          refine lv_aload_n hx hb dX10_count_130 rfl (lv_at hl 0 rfl) ?_
          refine va_get (D := (dC, dI)) (ci := 8) (v := .ref (ad (0 + 1))) (C := RX10) (T := TX10) (N := 7) hx hb hts hinX10 hown hK hP 0 rfl rfl 0 (by decide) hF10 (fun _ h9 => h9) rfl dX10_count_131 ?_
          refine va_get (D := (dC, dI)) (ci := 4) (v := .ref (ad (0 + 1 + 13))) (C := RX5) (T := TX5) (N := 6) hx hb hts hinX5 hown hK hP 1 rfl rfl 2 (by decide) hF153 (fun _ h9 => h9) rfl dX10_count_134 ?_
          refine va_get (D := (dC, dI)) (ci := 3) (v := .int (S1 1 0 2 9 0)) (C := RX4) (T := TX4) (N := 10) hx hb hts hinX4 hown hK hP 14 rfl rfl 0 (by decide) hF211 (fun _ h9 => h9) rfl dX10_count_137 ?_
          replace hR := Option.some.inj hR
          have e9 := hR
          exact W.iret hx hb hr (fun t ht hW => ⟨⟨_, (), rfl, e9, by rw [ht]; exact hP, va_K.moved hW.alike hK, hD⟩, hS.F ht⟩) hS.2.2 dX10_count_140
        · replace hR := it_f hR c28_2
          by_cases c28_3 : p1 = 3
          · replace hR := it_t hR c28_3
            refine lv_tableIn (off := 113) (tgt := 141) hx hb dX10_count_28 (by rw [c28_3]; decide) (by rw [c28_3]; decide) (by rw [c28_3]; rfl) (by decide) ?_
            refine lv_aload_n hx hb dX10_count_141 rfl (lv_at hl 0 rfl) ?_
            refine va_get (D := (dC, dI)) (ci := 8) (v := .ref (ad (0 + 1))) (C := RX10) (T := TX10) (N := 7) hx hb hts hinX10 hown hK hP 0 rfl rfl 0 (by decide) hF10 (fun _ h9 => h9) rfl dX10_count_142 ?_
            refine va_get (D := (dC, dI)) (ci := 4) (v := .ref (ad (0 + 1 + 23))) (C := RX5) (T := TX5) (N := 6) hx hb hts hinX5 hown hK hP 1 rfl rfl 3 (by decide) hF185 (fun _ h9 => h9) rfl dX10_count_145 ?_
            refine va_get (D := (dC, dI)) (ci := 7) (v := .int (S1 1 0 3 3 0)) (C := RX8) (T := TX8) (N := 4) hx hb hts hinX8 hown hK hP 24 rfl rfl 0 (by decide) hF212 (fun _ h9 => h9) rfl dX10_count_148 ?_
            replace hR := Option.some.inj hR
            have e9 := hR
            exact W.iret hx hb hr (fun t ht hW => ⟨⟨_, (), rfl, e9, by rw [ht]; exact hP, va_K.moved hW.alike hK, hD⟩, hS.F ht⟩) hS.2.2 dX10_count_151
          · replace hR := it_f hR c28_3
            by_cases c28_4 : p1 = 4
            · replace hR := it_t hR c28_4
              refine lv_tableIn (off := 124) (tgt := 152) hx hb dX10_count_28 (by rw [c28_4]; decide) (by rw [c28_4]; decide) (by rw [c28_4]; rfl) (by decide) ?_
              refine lv_aload_n hx hb dX10_count_152 rfl (lv_at hl 0 rfl) ?_
              refine va_get (D := (dC, dI)) (ci := 8) (v := .ref (ad (0 + 1))) (C := RX10) (T := TX10) (N := 7) hx hb hts hinX10 hown hK hP 0 rfl rfl 0 (by decide) hF10 (fun _ h9 => h9) rfl dX10_count_153 ?_
              refine va_get (D := (dC, dI)) (ci := 4) (v := .int (S1 1 0 4 1 0)) (C := RX5) (T := TX5) (N := 6) hx hb hts hinX5 hown hK hP 1 rfl rfl 5 (by decide) hF172 (fun _ h9 => h9) rfl dX10_count_156 ?_
              replace hR := Option.some.inj hR
              have e9 := hR
              exact W.iret hx hb hr (fun t ht hW => ⟨⟨_, (), rfl, e9, by rw [ht]; exact hP, va_K.moved hW.alike hK, hD⟩, hS.F ht⟩) hS.2.2 dX10_count_159
            · replace hR := it_f hR c28_4
              by_cases c28_5 : p1 = 5
              · replace hR := it_t hR c28_5
                refine lv_tableIn (off := 132) (tgt := 160) hx hb dX10_count_28 (by rw [c28_5]; decide) (by rw [c28_5]; decide) (by rw [c28_5]; rfl) (by decide) ?_
                refine lv_aload_n hx hb dX10_count_160 rfl (lv_at hl 0 rfl) ?_
                refine va_get (D := (dC, dI)) (ci := 8) (v := .ref (ad (0 + 1))) (C := RX10) (T := TX10) (N := 7) hx hb hts hinX10 hown hK hP 0 rfl rfl 0 (by decide) hF10 (fun _ h9 => h9) rfl dX10_count_161 ?_
                refine va_get (D := (dC, dI)) (ci := 4) (v := .ref (ad (0 + 1 + 6))) (C := RX5) (T := TX5) (N := 6) hx hb hts hinX5 hown hK hP 1 rfl rfl 1 (by decide) hF115 (fun _ h9 => h9) rfl dX10_count_164 ?_
                refine lv_iconst (v := 0) hx hb dX10_count_167 ic_0 ?_
                replace hR := bd_e hR
                obtain ⟨q168, gq168, hR⟩ := hR
                replace hP : va_P (dC, dI) vwCl (fl [[((ad 0), .inr (8, [.ref (ad (0 + 1)), .ref (ad (0 + 29)), .ref (ad (0 + 57)), .int (S1 1 3 2 0 0), .ref (ad (0 + 85)), .ref (ad (0 + 199)), .ref (ad (0 + 202))]))], [((ad (0 + 1)), .inr (4, [.ref (ad (0 + 1 + 1)), .ref (ad (0 + 1 + 6)), .ref (ad (0 + 1 + 13)), .ref (ad (0 + 1 + 23)), .ref (ad (0 + 1 + 27)), .int ((S1 1 0) 4 1 0)]))], (w_X6 ad (0 + 1 + 1) cs ((S1 1 0) 0)), (w_X1 ad (0 + 1 + 6) cs ((S1 1 0) 1)), (w_X4 ad (0 + 1 + 13) cs ((S1 1 0) 2)), (w_X8 ad (0 + 1 + 23) cs ((S1 1 0) 3)), [((ad (0 + 1 + 27)), .inl (cs 0, 3, .inl ((S1 1 0) 4 0)))], (w_X5 ad (0 + 29) cs (S1 1 1)), (w_X5 ad (0 + 57) cs (S1 1 2)), (w_X3 ad (0 + 85) cs (S1 0)), (w_X2 ad (0 + 199) cs (S1 1 3 0)), (w_X7 ad (0 + 202) cs en (S1 1 3 1))]) H8 := hP
                replace hD : va_D A (fl [[((ad 0), .inr (8, [.ref (ad (0 + 1)), .ref (ad (0 + 29)), .ref (ad (0 + 57)), .int (S1 1 3 2 0 0), .ref (ad (0 + 85)), .ref (ad (0 + 199)), .ref (ad (0 + 202))]))], [((ad (0 + 1)), .inr (4, [.ref (ad (0 + 1 + 1)), .ref (ad (0 + 1 + 6)), .ref (ad (0 + 1 + 13)), .ref (ad (0 + 1 + 23)), .ref (ad (0 + 1 + 27)), .int ((S1 1 0) 4 1 0)]))], (w_X6 ad (0 + 1 + 1) cs ((S1 1 0) 0)), (w_X1 ad (0 + 1 + 6) cs ((S1 1 0) 1)), (w_X4 ad (0 + 1 + 13) cs ((S1 1 0) 2)), (w_X8 ad (0 + 1 + 23) cs ((S1 1 0) 3)), [((ad (0 + 1 + 27)), .inl (cs 0, 3, .inl ((S1 1 0) 4 0)))], (w_X5 ad (0 + 29) cs (S1 1 1)), (w_X5 ad (0 + 57) cs (S1 1 2)), (w_X3 ad (0 + 85) cs (S1 0)), (w_X2 ad (0 + 199) cs (S1 1 3 0)), (w_X7 ad (0 + 202) cs en (S1 1 3 1))]) := hD
                refine cl_Vi (As := [.int (0 : Int32)]) (rest := []) (L := [[((ad 0), .inr (8, [.ref (ad (0 + 1)), .ref (ad (0 + 29)), .ref (ad (0 + 57)), .int (S1 1 3 2 0 0), .ref (ad (0 + 85)), .ref (ad (0 + 199)), .ref (ad (0 + 202))]))], [((ad (0 + 1)), .inr (4, [.ref (ad (0 + 1 + 1)), .ref (ad (0 + 1 + 6)), .ref (ad (0 + 1 + 13)), .ref (ad (0 + 1 + 23)), .ref (ad (0 + 1 + 27)), .int ((S1 1 0) 4 1 0)]))], (w_X6 ad (0 + 1 + 1) cs ((S1 1 0) 0)), (w_X1 ad (0 + 1 + 6) cs ((S1 1 0) 1)), (w_X4 ad (0 + 1 + 13) cs ((S1 1 0) 2)), (w_X8 ad (0 + 1 + 23) cs ((S1 1 0) 3)), [((ad (0 + 1 + 27)), .inl (cs 0, 3, .inl ((S1 1 0) 4 0)))], (w_X5 ad (0 + 29) cs (S1 1 1)), (w_X5 ad (0 + 57) cs (S1 1 2)), (w_X3 ad (0 + 85) cs (S1 0)), (w_X2 ad (0 + 199) cs (S1 1 3 0)), (w_X7 ad (0 + 202) cs en (S1 1 3 1))]) (L' := [[((ad 0), .inr (8, [.ref (ad (0 + 1)), .ref (ad (0 + 29)), .ref (ad (0 + 57)), .int (S1 1 3 2 0 0), .ref (ad (0 + 85)), .ref (ad (0 + 199)), .ref (ad (0 + 202))]))], [((ad (0 + 1)), .inr (4, [.ref (ad (0 + 1 + 1)), .ref (ad (0 + 1 + 6)), .ref (ad (0 + 1 + 13)), .ref (ad (0 + 1 + 23)), .ref (ad (0 + 1 + 27)), .int ((S1 1 0) 4 1 0)]))], (w_X6 ad (0 + 1 + 1) cs ((S1 1 0) 0)), (w_X1 ad (0 + 1 + 6) cs ((S1 1 0) 1)), (w_X4 ad (0 + 1 + 13) cs ((S1 1 0) 2)), (w_X8 ad (0 + 1 + 23) cs ((S1 1 0) 3)), [((ad (0 + 1 + 27)), .inl (cs 0, 3, .inl ((S1 1 0) 4 0)))], (w_X5 ad (0 + 29) cs (S1 1 1)), (w_X5 ad (0 + 57) cs (S1 1 2)), (w_X3 ad (0 + 85) cs (S1 0)), (w_X2 ad (0 + 199) cs (S1 1 3 0)), (w_X7 ad (0 + 202) cs en (S1 1 3 1))]) (Wc := [(w_X1 ad (0 + 1 + 6) cs ((S1 1 0) 1))]) (Wc' := [(w_X1 ad (0 + 1 + 6) cs (S1 1 0 1))]) (is := [3]) (js := [0, 1, 2, 4, 5, 6, 7, 8, 9, 10, 11]) ⟨hx, hb, hml, hown, hts⟩ (k_X1_countWhere l dC dI cs ad (0 + 1 + 6) H8.size (S1 1 0 1) (0 : Int32) q168 gq168) (cwV 1 hts gX10_count_X1_countWhere rfl rfl rfl cd_X1_countWhere ⟨Nat.le_of_ble_eq_true rfl, Nat.le_of_ble_eq_true rfl⟩) hK hP hD hS hA ⟨rfl, rfl, rfl, rfl, rfl, rfl⟩ (jn_nd (is := [3]) hD rfl rfl) 7 0 rfl rfl rfl rfl rfl hl.1 (Nat.le_of_ble_eq_true rfl) dX10_count_168 (fun H168 locs168 hP' hD' hS' => ?_)
                replace hS := hS'
                replace hP : va_P (dC, dI) vwCl (fl [(w_X10 ad (0) cs en S1)]) H168 := hP'
                replace hD : va_D A (fl [(w_X10 ad (0) cs en S1)]) := hD'
                clear hP' hD' hS'
                replace hR := Option.some.inj hR
                have e9 := hR
                exact W.iret hx hb hr (fun t ht hW => ⟨⟨_, (), rfl, e9, by rw [ht]; exact hP, va_K.moved hW.alike hK, hD⟩, hS.F ht⟩) hS.2.2 dX10_count_171
              · replace hR := it_f hR c28_5
                by_cases c28_6 : p1 = 6
                · replace hR := it_t hR c28_6
                  refine lv_tableIn (off := 144) (tgt := 172) hx hb dX10_count_28 (by rw [c28_6]; decide) (by rw [c28_6]; decide) (by rw [c28_6]; rfl) (by decide) ?_
                  refine lv_aload_n hx hb dX10_count_172 rfl (lv_at hl 0 rfl) ?_
                  refine va_get (D := (dC, dI)) (ci := 8) (v := .ref (ad (0 + 1))) (C := RX10) (T := TX10) (N := 7) hx hb hts hinX10 hown hK hP 0 rfl rfl 0 (by decide) hF10 (fun _ h9 => h9) rfl dX10_count_173 ?_
                  refine va_get (D := (dC, dI)) (ci := 4) (v := .ref (ad (0 + 1 + 6))) (C := RX5) (T := TX5) (N := 6) hx hb hts hinX5 hown hK hP 1 rfl rfl 1 (by decide) hF115 (fun _ h9 => h9) rfl dX10_count_176 ?_
                  refine lv_iconst (v := 1) hx hb dX10_count_179 ic_1 ?_
                  replace hR := bd_e hR
                  obtain ⟨q180, gq180, hR⟩ := hR
                  replace hP : va_P (dC, dI) vwCl (fl [[((ad 0), .inr (8, [.ref (ad (0 + 1)), .ref (ad (0 + 29)), .ref (ad (0 + 57)), .int (S1 1 3 2 0 0), .ref (ad (0 + 85)), .ref (ad (0 + 199)), .ref (ad (0 + 202))]))], [((ad (0 + 1)), .inr (4, [.ref (ad (0 + 1 + 1)), .ref (ad (0 + 1 + 6)), .ref (ad (0 + 1 + 13)), .ref (ad (0 + 1 + 23)), .ref (ad (0 + 1 + 27)), .int ((S1 1 0) 4 1 0)]))], (w_X6 ad (0 + 1 + 1) cs ((S1 1 0) 0)), (w_X1 ad (0 + 1 + 6) cs ((S1 1 0) 1)), (w_X4 ad (0 + 1 + 13) cs ((S1 1 0) 2)), (w_X8 ad (0 + 1 + 23) cs ((S1 1 0) 3)), [((ad (0 + 1 + 27)), .inl (cs 0, 3, .inl ((S1 1 0) 4 0)))], (w_X5 ad (0 + 29) cs (S1 1 1)), (w_X5 ad (0 + 57) cs (S1 1 2)), (w_X3 ad (0 + 85) cs (S1 0)), (w_X2 ad (0 + 199) cs (S1 1 3 0)), (w_X7 ad (0 + 202) cs en (S1 1 3 1))]) H8 := hP
                  replace hD : va_D A (fl [[((ad 0), .inr (8, [.ref (ad (0 + 1)), .ref (ad (0 + 29)), .ref (ad (0 + 57)), .int (S1 1 3 2 0 0), .ref (ad (0 + 85)), .ref (ad (0 + 199)), .ref (ad (0 + 202))]))], [((ad (0 + 1)), .inr (4, [.ref (ad (0 + 1 + 1)), .ref (ad (0 + 1 + 6)), .ref (ad (0 + 1 + 13)), .ref (ad (0 + 1 + 23)), .ref (ad (0 + 1 + 27)), .int ((S1 1 0) 4 1 0)]))], (w_X6 ad (0 + 1 + 1) cs ((S1 1 0) 0)), (w_X1 ad (0 + 1 + 6) cs ((S1 1 0) 1)), (w_X4 ad (0 + 1 + 13) cs ((S1 1 0) 2)), (w_X8 ad (0 + 1 + 23) cs ((S1 1 0) 3)), [((ad (0 + 1 + 27)), .inl (cs 0, 3, .inl ((S1 1 0) 4 0)))], (w_X5 ad (0 + 29) cs (S1 1 1)), (w_X5 ad (0 + 57) cs (S1 1 2)), (w_X3 ad (0 + 85) cs (S1 0)), (w_X2 ad (0 + 199) cs (S1 1 3 0)), (w_X7 ad (0 + 202) cs en (S1 1 3 1))]) := hD
                  refine cl_Vi (As := [.int (1 : Int32)]) (rest := []) (L := [[((ad 0), .inr (8, [.ref (ad (0 + 1)), .ref (ad (0 + 29)), .ref (ad (0 + 57)), .int (S1 1 3 2 0 0), .ref (ad (0 + 85)), .ref (ad (0 + 199)), .ref (ad (0 + 202))]))], [((ad (0 + 1)), .inr (4, [.ref (ad (0 + 1 + 1)), .ref (ad (0 + 1 + 6)), .ref (ad (0 + 1 + 13)), .ref (ad (0 + 1 + 23)), .ref (ad (0 + 1 + 27)), .int ((S1 1 0) 4 1 0)]))], (w_X6 ad (0 + 1 + 1) cs ((S1 1 0) 0)), (w_X1 ad (0 + 1 + 6) cs ((S1 1 0) 1)), (w_X4 ad (0 + 1 + 13) cs ((S1 1 0) 2)), (w_X8 ad (0 + 1 + 23) cs ((S1 1 0) 3)), [((ad (0 + 1 + 27)), .inl (cs 0, 3, .inl ((S1 1 0) 4 0)))], (w_X5 ad (0 + 29) cs (S1 1 1)), (w_X5 ad (0 + 57) cs (S1 1 2)), (w_X3 ad (0 + 85) cs (S1 0)), (w_X2 ad (0 + 199) cs (S1 1 3 0)), (w_X7 ad (0 + 202) cs en (S1 1 3 1))]) (L' := [[((ad 0), .inr (8, [.ref (ad (0 + 1)), .ref (ad (0 + 29)), .ref (ad (0 + 57)), .int (S1 1 3 2 0 0), .ref (ad (0 + 85)), .ref (ad (0 + 199)), .ref (ad (0 + 202))]))], [((ad (0 + 1)), .inr (4, [.ref (ad (0 + 1 + 1)), .ref (ad (0 + 1 + 6)), .ref (ad (0 + 1 + 13)), .ref (ad (0 + 1 + 23)), .ref (ad (0 + 1 + 27)), .int ((S1 1 0) 4 1 0)]))], (w_X6 ad (0 + 1 + 1) cs ((S1 1 0) 0)), (w_X1 ad (0 + 1 + 6) cs ((S1 1 0) 1)), (w_X4 ad (0 + 1 + 13) cs ((S1 1 0) 2)), (w_X8 ad (0 + 1 + 23) cs ((S1 1 0) 3)), [((ad (0 + 1 + 27)), .inl (cs 0, 3, .inl ((S1 1 0) 4 0)))], (w_X5 ad (0 + 29) cs (S1 1 1)), (w_X5 ad (0 + 57) cs (S1 1 2)), (w_X3 ad (0 + 85) cs (S1 0)), (w_X2 ad (0 + 199) cs (S1 1 3 0)), (w_X7 ad (0 + 202) cs en (S1 1 3 1))]) (Wc := [(w_X1 ad (0 + 1 + 6) cs ((S1 1 0) 1))]) (Wc' := [(w_X1 ad (0 + 1 + 6) cs (S1 1 0 1))]) (is := [3]) (js := [0, 1, 2, 4, 5, 6, 7, 8, 9, 10, 11]) ⟨hx, hb, hml, hown, hts⟩ (k_X1_countWhere l dC dI cs ad (0 + 1 + 6) H8.size (S1 1 0 1) (1 : Int32) q180 gq180) (cwV 1 hts gX10_count_X1_countWhere rfl rfl rfl cd_X1_countWhere ⟨Nat.le_of_ble_eq_true rfl, Nat.le_of_ble_eq_true rfl⟩) hK hP hD hS hA ⟨rfl, rfl, rfl, rfl, rfl, rfl⟩ (jn_nd (is := [3]) hD rfl rfl) 7 0 rfl rfl rfl rfl rfl hl.1 (Nat.le_of_ble_eq_true rfl) dX10_count_180 (fun H180 locs180 hP' hD' hS' => ?_)
                  replace hS := hS'
                  replace hP : va_P (dC, dI) vwCl (fl [(w_X10 ad (0) cs en S1)]) H180 := hP'
                  replace hD : va_D A (fl [(w_X10 ad (0) cs en S1)]) := hD'
                  clear hP' hD' hS'
                  replace hR := Option.some.inj hR
                  have e9 := hR
                  exact W.iret hx hb hr (fun t ht hW => ⟨⟨_, (), rfl, e9, by rw [ht]; exact hP, va_K.moved hW.alike hK, hD⟩, hS.F ht⟩) hS.2.2 dX10_count_183
                · replace hR := it_f hR c28_6
                  by_cases c28_7 : p1 = 7
                  · replace hR := it_t hR c28_7
                    refine lv_tableIn (off := 156) (tgt := 184) hx hb dX10_count_28 (by rw [c28_7]; decide) (by rw [c28_7]; decide) (by rw [c28_7]; rfl) (by decide) ?_
                    refine lv_aload_n hx hb dX10_count_184 rfl (lv_at hl 0 rfl) ?_
                    refine va_get (D := (dC, dI)) (ci := 8) (v := .ref (ad (0 + 1))) (C := RX10) (T := TX10) (N := 7) hx hb hts hinX10 hown hK hP 0 rfl rfl 0 (by decide) hF10 (fun _ h9 => h9) rfl dX10_count_185 ?_
                    refine va_get (D := (dC, dI)) (ci := 4) (v := .ref (ad (0 + 1 + 6))) (C := RX5) (T := TX5) (N := 6) hx hb hts hinX5 hown hK hP 1 rfl rfl 1 (by decide) hF115 (fun _ h9 => h9) rfl dX10_count_188 ?_
                    refine lv_iconst (v := 2) hx hb dX10_count_191 ic_2 ?_
                    replace hR := bd_e hR
                    obtain ⟨q192, gq192, hR⟩ := hR
                    replace hP : va_P (dC, dI) vwCl (fl [[((ad 0), .inr (8, [.ref (ad (0 + 1)), .ref (ad (0 + 29)), .ref (ad (0 + 57)), .int (S1 1 3 2 0 0), .ref (ad (0 + 85)), .ref (ad (0 + 199)), .ref (ad (0 + 202))]))], [((ad (0 + 1)), .inr (4, [.ref (ad (0 + 1 + 1)), .ref (ad (0 + 1 + 6)), .ref (ad (0 + 1 + 13)), .ref (ad (0 + 1 + 23)), .ref (ad (0 + 1 + 27)), .int ((S1 1 0) 4 1 0)]))], (w_X6 ad (0 + 1 + 1) cs ((S1 1 0) 0)), (w_X1 ad (0 + 1 + 6) cs ((S1 1 0) 1)), (w_X4 ad (0 + 1 + 13) cs ((S1 1 0) 2)), (w_X8 ad (0 + 1 + 23) cs ((S1 1 0) 3)), [((ad (0 + 1 + 27)), .inl (cs 0, 3, .inl ((S1 1 0) 4 0)))], (w_X5 ad (0 + 29) cs (S1 1 1)), (w_X5 ad (0 + 57) cs (S1 1 2)), (w_X3 ad (0 + 85) cs (S1 0)), (w_X2 ad (0 + 199) cs (S1 1 3 0)), (w_X7 ad (0 + 202) cs en (S1 1 3 1))]) H8 := hP
                    replace hD : va_D A (fl [[((ad 0), .inr (8, [.ref (ad (0 + 1)), .ref (ad (0 + 29)), .ref (ad (0 + 57)), .int (S1 1 3 2 0 0), .ref (ad (0 + 85)), .ref (ad (0 + 199)), .ref (ad (0 + 202))]))], [((ad (0 + 1)), .inr (4, [.ref (ad (0 + 1 + 1)), .ref (ad (0 + 1 + 6)), .ref (ad (0 + 1 + 13)), .ref (ad (0 + 1 + 23)), .ref (ad (0 + 1 + 27)), .int ((S1 1 0) 4 1 0)]))], (w_X6 ad (0 + 1 + 1) cs ((S1 1 0) 0)), (w_X1 ad (0 + 1 + 6) cs ((S1 1 0) 1)), (w_X4 ad (0 + 1 + 13) cs ((S1 1 0) 2)), (w_X8 ad (0 + 1 + 23) cs ((S1 1 0) 3)), [((ad (0 + 1 + 27)), .inl (cs 0, 3, .inl ((S1 1 0) 4 0)))], (w_X5 ad (0 + 29) cs (S1 1 1)), (w_X5 ad (0 + 57) cs (S1 1 2)), (w_X3 ad (0 + 85) cs (S1 0)), (w_X2 ad (0 + 199) cs (S1 1 3 0)), (w_X7 ad (0 + 202) cs en (S1 1 3 1))]) := hD
                    refine cl_Vi (As := [.int (2 : Int32)]) (rest := []) (L := [[((ad 0), .inr (8, [.ref (ad (0 + 1)), .ref (ad (0 + 29)), .ref (ad (0 + 57)), .int (S1 1 3 2 0 0), .ref (ad (0 + 85)), .ref (ad (0 + 199)), .ref (ad (0 + 202))]))], [((ad (0 + 1)), .inr (4, [.ref (ad (0 + 1 + 1)), .ref (ad (0 + 1 + 6)), .ref (ad (0 + 1 + 13)), .ref (ad (0 + 1 + 23)), .ref (ad (0 + 1 + 27)), .int ((S1 1 0) 4 1 0)]))], (w_X6 ad (0 + 1 + 1) cs ((S1 1 0) 0)), (w_X1 ad (0 + 1 + 6) cs ((S1 1 0) 1)), (w_X4 ad (0 + 1 + 13) cs ((S1 1 0) 2)), (w_X8 ad (0 + 1 + 23) cs ((S1 1 0) 3)), [((ad (0 + 1 + 27)), .inl (cs 0, 3, .inl ((S1 1 0) 4 0)))], (w_X5 ad (0 + 29) cs (S1 1 1)), (w_X5 ad (0 + 57) cs (S1 1 2)), (w_X3 ad (0 + 85) cs (S1 0)), (w_X2 ad (0 + 199) cs (S1 1 3 0)), (w_X7 ad (0 + 202) cs en (S1 1 3 1))]) (L' := [[((ad 0), .inr (8, [.ref (ad (0 + 1)), .ref (ad (0 + 29)), .ref (ad (0 + 57)), .int (S1 1 3 2 0 0), .ref (ad (0 + 85)), .ref (ad (0 + 199)), .ref (ad (0 + 202))]))], [((ad (0 + 1)), .inr (4, [.ref (ad (0 + 1 + 1)), .ref (ad (0 + 1 + 6)), .ref (ad (0 + 1 + 13)), .ref (ad (0 + 1 + 23)), .ref (ad (0 + 1 + 27)), .int ((S1 1 0) 4 1 0)]))], (w_X6 ad (0 + 1 + 1) cs ((S1 1 0) 0)), (w_X1 ad (0 + 1 + 6) cs ((S1 1 0) 1)), (w_X4 ad (0 + 1 + 13) cs ((S1 1 0) 2)), (w_X8 ad (0 + 1 + 23) cs ((S1 1 0) 3)), [((ad (0 + 1 + 27)), .inl (cs 0, 3, .inl ((S1 1 0) 4 0)))], (w_X5 ad (0 + 29) cs (S1 1 1)), (w_X5 ad (0 + 57) cs (S1 1 2)), (w_X3 ad (0 + 85) cs (S1 0)), (w_X2 ad (0 + 199) cs (S1 1 3 0)), (w_X7 ad (0 + 202) cs en (S1 1 3 1))]) (Wc := [(w_X1 ad (0 + 1 + 6) cs ((S1 1 0) 1))]) (Wc' := [(w_X1 ad (0 + 1 + 6) cs (S1 1 0 1))]) (is := [3]) (js := [0, 1, 2, 4, 5, 6, 7, 8, 9, 10, 11]) ⟨hx, hb, hml, hown, hts⟩ (k_X1_countWhere l dC dI cs ad (0 + 1 + 6) H8.size (S1 1 0 1) (2 : Int32) q192 gq192) (cwV 1 hts gX10_count_X1_countWhere rfl rfl rfl cd_X1_countWhere ⟨Nat.le_of_ble_eq_true rfl, Nat.le_of_ble_eq_true rfl⟩) hK hP hD hS hA ⟨rfl, rfl, rfl, rfl, rfl, rfl⟩ (jn_nd (is := [3]) hD rfl rfl) 7 0 rfl rfl rfl rfl rfl hl.1 (Nat.le_of_ble_eq_true rfl) dX10_count_192 (fun H192 locs192 hP' hD' hS' => ?_)
                    replace hS := hS'
                    replace hP : va_P (dC, dI) vwCl (fl [(w_X10 ad (0) cs en S1)]) H192 := hP'
                    replace hD : va_D A (fl [(w_X10 ad (0) cs en S1)]) := hD'
                    clear hP' hD' hS'
                    replace hR := Option.some.inj hR
                    have e9 := hR
                    exact W.iret hx hb hr (fun t ht hW => ⟨⟨_, (), rfl, e9, by rw [ht]; exact hP, va_K.moved hW.alike hK, hD⟩, hS.F ht⟩) hS.2.2 dX10_count_195
                  · replace hR := it_f hR c28_7
                    by_cases c28_8 : p1 = 8
                    · replace hR := it_t hR c28_8
                      refine lv_tableIn (off := 168) (tgt := 196) hx hb dX10_count_28 (by rw [c28_8]; decide) (by rw [c28_8]; decide) (by rw [c28_8]; rfl) (by decide) ?_
                      refine lv_aload_n hx hb dX10_count_196 rfl (lv_at hl 0 rfl) ?_
                      refine va_get (D := (dC, dI)) (ci := 8) (v := .ref (ad (0 + 1))) (C := RX10) (T := TX10) (N := 7) hx hb hts hinX10 hown hK hP 0 rfl rfl 0 (by decide) hF10 (fun _ h9 => h9) rfl dX10_count_197 ?_
                      refine va_get (D := (dC, dI)) (ci := 4) (v := .ref (ad (0 + 1 + 6))) (C := RX5) (T := TX5) (N := 6) hx hb hts hinX5 hown hK hP 1 rfl rfl 1 (by decide) hF115 (fun _ h9 => h9) rfl dX10_count_200 ?_
                      refine lv_iconst (v := 3) hx hb dX10_count_203 ic_3 ?_
                      replace hR := bd_e hR
                      obtain ⟨q204, gq204, hR⟩ := hR
                      replace hP : va_P (dC, dI) vwCl (fl [[((ad 0), .inr (8, [.ref (ad (0 + 1)), .ref (ad (0 + 29)), .ref (ad (0 + 57)), .int (S1 1 3 2 0 0), .ref (ad (0 + 85)), .ref (ad (0 + 199)), .ref (ad (0 + 202))]))], [((ad (0 + 1)), .inr (4, [.ref (ad (0 + 1 + 1)), .ref (ad (0 + 1 + 6)), .ref (ad (0 + 1 + 13)), .ref (ad (0 + 1 + 23)), .ref (ad (0 + 1 + 27)), .int ((S1 1 0) 4 1 0)]))], (w_X6 ad (0 + 1 + 1) cs ((S1 1 0) 0)), (w_X1 ad (0 + 1 + 6) cs ((S1 1 0) 1)), (w_X4 ad (0 + 1 + 13) cs ((S1 1 0) 2)), (w_X8 ad (0 + 1 + 23) cs ((S1 1 0) 3)), [((ad (0 + 1 + 27)), .inl (cs 0, 3, .inl ((S1 1 0) 4 0)))], (w_X5 ad (0 + 29) cs (S1 1 1)), (w_X5 ad (0 + 57) cs (S1 1 2)), (w_X3 ad (0 + 85) cs (S1 0)), (w_X2 ad (0 + 199) cs (S1 1 3 0)), (w_X7 ad (0 + 202) cs en (S1 1 3 1))]) H8 := hP
                      replace hD : va_D A (fl [[((ad 0), .inr (8, [.ref (ad (0 + 1)), .ref (ad (0 + 29)), .ref (ad (0 + 57)), .int (S1 1 3 2 0 0), .ref (ad (0 + 85)), .ref (ad (0 + 199)), .ref (ad (0 + 202))]))], [((ad (0 + 1)), .inr (4, [.ref (ad (0 + 1 + 1)), .ref (ad (0 + 1 + 6)), .ref (ad (0 + 1 + 13)), .ref (ad (0 + 1 + 23)), .ref (ad (0 + 1 + 27)), .int ((S1 1 0) 4 1 0)]))], (w_X6 ad (0 + 1 + 1) cs ((S1 1 0) 0)), (w_X1 ad (0 + 1 + 6) cs ((S1 1 0) 1)), (w_X4 ad (0 + 1 + 13) cs ((S1 1 0) 2)), (w_X8 ad (0 + 1 + 23) cs ((S1 1 0) 3)), [((ad (0 + 1 + 27)), .inl (cs 0, 3, .inl ((S1 1 0) 4 0)))], (w_X5 ad (0 + 29) cs (S1 1 1)), (w_X5 ad (0 + 57) cs (S1 1 2)), (w_X3 ad (0 + 85) cs (S1 0)), (w_X2 ad (0 + 199) cs (S1 1 3 0)), (w_X7 ad (0 + 202) cs en (S1 1 3 1))]) := hD
                      refine cl_Vi (As := [.int (3 : Int32)]) (rest := []) (L := [[((ad 0), .inr (8, [.ref (ad (0 + 1)), .ref (ad (0 + 29)), .ref (ad (0 + 57)), .int (S1 1 3 2 0 0), .ref (ad (0 + 85)), .ref (ad (0 + 199)), .ref (ad (0 + 202))]))], [((ad (0 + 1)), .inr (4, [.ref (ad (0 + 1 + 1)), .ref (ad (0 + 1 + 6)), .ref (ad (0 + 1 + 13)), .ref (ad (0 + 1 + 23)), .ref (ad (0 + 1 + 27)), .int ((S1 1 0) 4 1 0)]))], (w_X6 ad (0 + 1 + 1) cs ((S1 1 0) 0)), (w_X1 ad (0 + 1 + 6) cs ((S1 1 0) 1)), (w_X4 ad (0 + 1 + 13) cs ((S1 1 0) 2)), (w_X8 ad (0 + 1 + 23) cs ((S1 1 0) 3)), [((ad (0 + 1 + 27)), .inl (cs 0, 3, .inl ((S1 1 0) 4 0)))], (w_X5 ad (0 + 29) cs (S1 1 1)), (w_X5 ad (0 + 57) cs (S1 1 2)), (w_X3 ad (0 + 85) cs (S1 0)), (w_X2 ad (0 + 199) cs (S1 1 3 0)), (w_X7 ad (0 + 202) cs en (S1 1 3 1))]) (L' := [[((ad 0), .inr (8, [.ref (ad (0 + 1)), .ref (ad (0 + 29)), .ref (ad (0 + 57)), .int (S1 1 3 2 0 0), .ref (ad (0 + 85)), .ref (ad (0 + 199)), .ref (ad (0 + 202))]))], [((ad (0 + 1)), .inr (4, [.ref (ad (0 + 1 + 1)), .ref (ad (0 + 1 + 6)), .ref (ad (0 + 1 + 13)), .ref (ad (0 + 1 + 23)), .ref (ad (0 + 1 + 27)), .int ((S1 1 0) 4 1 0)]))], (w_X6 ad (0 + 1 + 1) cs ((S1 1 0) 0)), (w_X1 ad (0 + 1 + 6) cs ((S1 1 0) 1)), (w_X4 ad (0 + 1 + 13) cs ((S1 1 0) 2)), (w_X8 ad (0 + 1 + 23) cs ((S1 1 0) 3)), [((ad (0 + 1 + 27)), .inl (cs 0, 3, .inl ((S1 1 0) 4 0)))], (w_X5 ad (0 + 29) cs (S1 1 1)), (w_X5 ad (0 + 57) cs (S1 1 2)), (w_X3 ad (0 + 85) cs (S1 0)), (w_X2 ad (0 + 199) cs (S1 1 3 0)), (w_X7 ad (0 + 202) cs en (S1 1 3 1))]) (Wc := [(w_X1 ad (0 + 1 + 6) cs ((S1 1 0) 1))]) (Wc' := [(w_X1 ad (0 + 1 + 6) cs (S1 1 0 1))]) (is := [3]) (js := [0, 1, 2, 4, 5, 6, 7, 8, 9, 10, 11]) ⟨hx, hb, hml, hown, hts⟩ (k_X1_countWhere l dC dI cs ad (0 + 1 + 6) H8.size (S1 1 0 1) (3 : Int32) q204 gq204) (cwV 1 hts gX10_count_X1_countWhere rfl rfl rfl cd_X1_countWhere ⟨Nat.le_of_ble_eq_true rfl, Nat.le_of_ble_eq_true rfl⟩) hK hP hD hS hA ⟨rfl, rfl, rfl, rfl, rfl, rfl⟩ (jn_nd (is := [3]) hD rfl rfl) 7 0 rfl rfl rfl rfl rfl hl.1 (Nat.le_of_ble_eq_true rfl) dX10_count_204 (fun H204 locs204 hP' hD' hS' => ?_)
                      replace hS := hS'
                      replace hP : va_P (dC, dI) vwCl (fl [(w_X10 ad (0) cs en S1)]) H204 := hP'
                      replace hD : va_D A (fl [(w_X10 ad (0) cs en S1)]) := hD'
                      clear hP' hD' hS'
                      replace hR := Option.some.inj hR
                      have e9 := hR
                      exact W.iret hx hb hr (fun t ht hW => ⟨⟨_, (), rfl, e9, by rw [ht]; exact hP, va_K.moved hW.alike hK, hD⟩, hS.F ht⟩) hS.2.2 dX10_count_207
                    · replace hR := it_f hR c28_8
                      by_cases c28_9 : p1 = 9
                      · replace hR := it_t hR c28_9
                        refine lv_tableIn (off := 180) (tgt := 208) hx hb dX10_count_28 (by rw [c28_9]; decide) (by rw [c28_9]; decide) (by rw [c28_9]; rfl) (by decide) ?_
                        refine lv_aload_n hx hb dX10_count_208 rfl (lv_at hl 0 rfl) ?_
                        refine va_get (D := (dC, dI)) (ci := 8) (v := .ref (ad (0 + 1))) (C := RX10) (T := TX10) (N := 7) hx hb hts hinX10 hown hK hP 0 rfl rfl 0 (by decide) hF10 (fun _ h9 => h9) rfl dX10_count_209 ?_
                        refine va_get (D := (dC, dI)) (ci := 4) (v := .ref (ad (0 + 1 + 6))) (C := RX5) (T := TX5) (N := 6) hx hb hts hinX5 hown hK hP 1 rfl rfl 1 (by decide) hF115 (fun _ h9 => h9) rfl dX10_count_212 ?_
                        replace hR := bd_e hR
                        obtain ⟨q215, gq215, hR⟩ := hR
                        replace hP : va_P (dC, dI) vwCl (fl [[((ad 0), .inr (8, [.ref (ad (0 + 1)), .ref (ad (0 + 29)), .ref (ad (0 + 57)), .int (S1 1 3 2 0 0), .ref (ad (0 + 85)), .ref (ad (0 + 199)), .ref (ad (0 + 202))]))], [((ad (0 + 1)), .inr (4, [.ref (ad (0 + 1 + 1)), .ref (ad (0 + 1 + 6)), .ref (ad (0 + 1 + 13)), .ref (ad (0 + 1 + 23)), .ref (ad (0 + 1 + 27)), .int ((S1 1 0) 4 1 0)]))], (w_X6 ad (0 + 1 + 1) cs ((S1 1 0) 0)), (w_X1 ad (0 + 1 + 6) cs ((S1 1 0) 1)), (w_X4 ad (0 + 1 + 13) cs ((S1 1 0) 2)), (w_X8 ad (0 + 1 + 23) cs ((S1 1 0) 3)), [((ad (0 + 1 + 27)), .inl (cs 0, 3, .inl ((S1 1 0) 4 0)))], (w_X5 ad (0 + 29) cs (S1 1 1)), (w_X5 ad (0 + 57) cs (S1 1 2)), (w_X3 ad (0 + 85) cs (S1 0)), (w_X2 ad (0 + 199) cs (S1 1 3 0)), (w_X7 ad (0 + 202) cs en (S1 1 3 1))]) H8 := hP
                        replace hD : va_D A (fl [[((ad 0), .inr (8, [.ref (ad (0 + 1)), .ref (ad (0 + 29)), .ref (ad (0 + 57)), .int (S1 1 3 2 0 0), .ref (ad (0 + 85)), .ref (ad (0 + 199)), .ref (ad (0 + 202))]))], [((ad (0 + 1)), .inr (4, [.ref (ad (0 + 1 + 1)), .ref (ad (0 + 1 + 6)), .ref (ad (0 + 1 + 13)), .ref (ad (0 + 1 + 23)), .ref (ad (0 + 1 + 27)), .int ((S1 1 0) 4 1 0)]))], (w_X6 ad (0 + 1 + 1) cs ((S1 1 0) 0)), (w_X1 ad (0 + 1 + 6) cs ((S1 1 0) 1)), (w_X4 ad (0 + 1 + 13) cs ((S1 1 0) 2)), (w_X8 ad (0 + 1 + 23) cs ((S1 1 0) 3)), [((ad (0 + 1 + 27)), .inl (cs 0, 3, .inl ((S1 1 0) 4 0)))], (w_X5 ad (0 + 29) cs (S1 1 1)), (w_X5 ad (0 + 57) cs (S1 1 2)), (w_X3 ad (0 + 85) cs (S1 0)), (w_X2 ad (0 + 199) cs (S1 1 3 0)), (w_X7 ad (0 + 202) cs en (S1 1 3 1))]) := hD
                        refine cl_Vi (As := []) (rest := []) (L := [[((ad 0), .inr (8, [.ref (ad (0 + 1)), .ref (ad (0 + 29)), .ref (ad (0 + 57)), .int (S1 1 3 2 0 0), .ref (ad (0 + 85)), .ref (ad (0 + 199)), .ref (ad (0 + 202))]))], [((ad (0 + 1)), .inr (4, [.ref (ad (0 + 1 + 1)), .ref (ad (0 + 1 + 6)), .ref (ad (0 + 1 + 13)), .ref (ad (0 + 1 + 23)), .ref (ad (0 + 1 + 27)), .int ((S1 1 0) 4 1 0)]))], (w_X6 ad (0 + 1 + 1) cs ((S1 1 0) 0)), (w_X1 ad (0 + 1 + 6) cs ((S1 1 0) 1)), (w_X4 ad (0 + 1 + 13) cs ((S1 1 0) 2)), (w_X8 ad (0 + 1 + 23) cs ((S1 1 0) 3)), [((ad (0 + 1 + 27)), .inl (cs 0, 3, .inl ((S1 1 0) 4 0)))], (w_X5 ad (0 + 29) cs (S1 1 1)), (w_X5 ad (0 + 57) cs (S1 1 2)), (w_X3 ad (0 + 85) cs (S1 0)), (w_X2 ad (0 + 199) cs (S1 1 3 0)), (w_X7 ad (0 + 202) cs en (S1 1 3 1))]) (L' := [[((ad 0), .inr (8, [.ref (ad (0 + 1)), .ref (ad (0 + 29)), .ref (ad (0 + 57)), .int (S1 1 3 2 0 0), .ref (ad (0 + 85)), .ref (ad (0 + 199)), .ref (ad (0 + 202))]))], [((ad (0 + 1)), .inr (4, [.ref (ad (0 + 1 + 1)), .ref (ad (0 + 1 + 6)), .ref (ad (0 + 1 + 13)), .ref (ad (0 + 1 + 23)), .ref (ad (0 + 1 + 27)), .int ((S1 1 0) 4 1 0)]))], (w_X6 ad (0 + 1 + 1) cs ((S1 1 0) 0)), (w_X1 ad (0 + 1 + 6) cs ((S1 1 0) 1)), (w_X4 ad (0 + 1 + 13) cs ((S1 1 0) 2)), (w_X8 ad (0 + 1 + 23) cs ((S1 1 0) 3)), [((ad (0 + 1 + 27)), .inl (cs 0, 3, .inl ((S1 1 0) 4 0)))], (w_X5 ad (0 + 29) cs (S1 1 1)), (w_X5 ad (0 + 57) cs (S1 1 2)), (w_X3 ad (0 + 85) cs (S1 0)), (w_X2 ad (0 + 199) cs (S1 1 3 0)), (w_X7 ad (0 + 202) cs en (S1 1 3 1))]) (Wc := [(w_X1 ad (0 + 1 + 6) cs ((S1 1 0) 1))]) (Wc' := [(w_X1 ad (0 + 1 + 6) cs (S1 1 0 1))]) (is := [3]) (js := [0, 1, 2, 4, 5, 6, 7, 8, 9, 10, 11]) ⟨hx, hb, hml, hown, hts⟩ (k_X1_countFaulty l dC dI cs ad (0 + 1 + 6) H8.size (S1 1 0 1) q215 gq215) (cwV 0 hts gX10_count_X1_countFaulty rfl rfl rfl cd_X1_countFaulty ⟨Nat.le_of_ble_eq_true rfl, Nat.le_of_ble_eq_true rfl⟩) hK hP hD hS hA ⟨rfl, rfl, rfl, rfl, rfl, rfl⟩ (jn_nd (is := [3]) hD rfl rfl) 7 0 rfl rfl rfl rfl rfl hl.1 (Nat.le_of_ble_eq_true rfl) dX10_count_215 (fun H215 locs215 hP' hD' hS' => ?_)
                        replace hS := hS'
                        replace hP : va_P (dC, dI) vwCl (fl [(w_X10 ad (0) cs en S1)]) H215 := hP'
                        replace hD : va_D A (fl [(w_X10 ad (0) cs en S1)]) := hD'
                        clear hP' hD' hS'
                        replace hR := Option.some.inj hR
                        have e9 := hR
                        exact W.iret hx hb hr (fun t ht hW => ⟨⟨_, (), rfl, e9, by rw [ht]; exact hP, va_K.moved hW.alike hK, hD⟩, hS.F ht⟩) hS.2.2 dX10_count_218
                      · replace hR := it_f hR c28_9
                        by_cases c28_10 : p1 = 10
                        · replace hR := it_t hR c28_10
                          refine lv_tableIn (off := 191) (tgt := 219) hx hb dX10_count_28 (by rw [c28_10]; decide) (by rw [c28_10]; decide) (by rw [c28_10]; rfl) (by decide) ?_
                          refine lv_aload_n hx hb dX10_count_219 rfl (lv_at hl 0 rfl) ?_
                          refine va_get (D := (dC, dI)) (ci := 8) (v := .ref (ad (0 + 1))) (C := RX10) (T := TX10) (N := 7) hx hb hts hinX10 hown hK hP 0 rfl rfl 0 (by decide) hF10 (fun _ h9 => h9) rfl dX10_count_220 ?_
                          refine va_get (D := (dC, dI)) (ci := 4) (v := .ref (ad (0 + 1 + 1))) (C := RX5) (T := TX5) (N := 6) hx hb hts hinX5 hown hK hP 1 rfl rfl 0 (by decide) hF98 (fun _ h9 => h9) rfl dX10_count_223 ?_
                          replace hR := bd_e hR
                          obtain ⟨q226, gq226, hR⟩ := hR
                          replace hP : va_P (dC, dI) vwCl (fl [[((ad 0), .inr (8, [.ref (ad (0 + 1)), .ref (ad (0 + 29)), .ref (ad (0 + 57)), .int (S1 1 3 2 0 0), .ref (ad (0 + 85)), .ref (ad (0 + 199)), .ref (ad (0 + 202))]))], [((ad (0 + 1)), .inr (4, [.ref (ad (0 + 1 + 1)), .ref (ad (0 + 1 + 6)), .ref (ad (0 + 1 + 13)), .ref (ad (0 + 1 + 23)), .ref (ad (0 + 1 + 27)), .int ((S1 1 0) 4 1 0)]))], (w_X6 ad (0 + 1 + 1) cs ((S1 1 0) 0)), (w_X1 ad (0 + 1 + 6) cs ((S1 1 0) 1)), (w_X4 ad (0 + 1 + 13) cs ((S1 1 0) 2)), (w_X8 ad (0 + 1 + 23) cs ((S1 1 0) 3)), [((ad (0 + 1 + 27)), .inl (cs 0, 3, .inl ((S1 1 0) 4 0)))], (w_X5 ad (0 + 29) cs (S1 1 1)), (w_X5 ad (0 + 57) cs (S1 1 2)), (w_X3 ad (0 + 85) cs (S1 0)), (w_X2 ad (0 + 199) cs (S1 1 3 0)), (w_X7 ad (0 + 202) cs en (S1 1 3 1))]) H8 := hP
                          replace hD : va_D A (fl [[((ad 0), .inr (8, [.ref (ad (0 + 1)), .ref (ad (0 + 29)), .ref (ad (0 + 57)), .int (S1 1 3 2 0 0), .ref (ad (0 + 85)), .ref (ad (0 + 199)), .ref (ad (0 + 202))]))], [((ad (0 + 1)), .inr (4, [.ref (ad (0 + 1 + 1)), .ref (ad (0 + 1 + 6)), .ref (ad (0 + 1 + 13)), .ref (ad (0 + 1 + 23)), .ref (ad (0 + 1 + 27)), .int ((S1 1 0) 4 1 0)]))], (w_X6 ad (0 + 1 + 1) cs ((S1 1 0) 0)), (w_X1 ad (0 + 1 + 6) cs ((S1 1 0) 1)), (w_X4 ad (0 + 1 + 13) cs ((S1 1 0) 2)), (w_X8 ad (0 + 1 + 23) cs ((S1 1 0) 3)), [((ad (0 + 1 + 27)), .inl (cs 0, 3, .inl ((S1 1 0) 4 0)))], (w_X5 ad (0 + 29) cs (S1 1 1)), (w_X5 ad (0 + 57) cs (S1 1 2)), (w_X3 ad (0 + 85) cs (S1 0)), (w_X2 ad (0 + 199) cs (S1 1 3 0)), (w_X7 ad (0 + 202) cs en (S1 1 3 1))]) := hD
                          refine cl_Vi (As := []) (rest := []) (L := [[((ad 0), .inr (8, [.ref (ad (0 + 1)), .ref (ad (0 + 29)), .ref (ad (0 + 57)), .int (S1 1 3 2 0 0), .ref (ad (0 + 85)), .ref (ad (0 + 199)), .ref (ad (0 + 202))]))], [((ad (0 + 1)), .inr (4, [.ref (ad (0 + 1 + 1)), .ref (ad (0 + 1 + 6)), .ref (ad (0 + 1 + 13)), .ref (ad (0 + 1 + 23)), .ref (ad (0 + 1 + 27)), .int ((S1 1 0) 4 1 0)]))], (w_X6 ad (0 + 1 + 1) cs ((S1 1 0) 0)), (w_X1 ad (0 + 1 + 6) cs ((S1 1 0) 1)), (w_X4 ad (0 + 1 + 13) cs ((S1 1 0) 2)), (w_X8 ad (0 + 1 + 23) cs ((S1 1 0) 3)), [((ad (0 + 1 + 27)), .inl (cs 0, 3, .inl ((S1 1 0) 4 0)))], (w_X5 ad (0 + 29) cs (S1 1 1)), (w_X5 ad (0 + 57) cs (S1 1 2)), (w_X3 ad (0 + 85) cs (S1 0)), (w_X2 ad (0 + 199) cs (S1 1 3 0)), (w_X7 ad (0 + 202) cs en (S1 1 3 1))]) (L' := [[((ad 0), .inr (8, [.ref (ad (0 + 1)), .ref (ad (0 + 29)), .ref (ad (0 + 57)), .int (S1 1 3 2 0 0), .ref (ad (0 + 85)), .ref (ad (0 + 199)), .ref (ad (0 + 202))]))], [((ad (0 + 1)), .inr (4, [.ref (ad (0 + 1 + 1)), .ref (ad (0 + 1 + 6)), .ref (ad (0 + 1 + 13)), .ref (ad (0 + 1 + 23)), .ref (ad (0 + 1 + 27)), .int ((S1 1 0) 4 1 0)]))], (w_X6 ad (0 + 1 + 1) cs ((S1 1 0) 0)), (w_X1 ad (0 + 1 + 6) cs ((S1 1 0) 1)), (w_X4 ad (0 + 1 + 13) cs ((S1 1 0) 2)), (w_X8 ad (0 + 1 + 23) cs ((S1 1 0) 3)), [((ad (0 + 1 + 27)), .inl (cs 0, 3, .inl ((S1 1 0) 4 0)))], (w_X5 ad (0 + 29) cs (S1 1 1)), (w_X5 ad (0 + 57) cs (S1 1 2)), (w_X3 ad (0 + 85) cs (S1 0)), (w_X2 ad (0 + 199) cs (S1 1 3 0)), (w_X7 ad (0 + 202) cs en (S1 1 3 1))]) (Wc := [(w_X6 ad (0 + 1 + 1) cs ((S1 1 0) 0))]) (Wc' := [(w_X6 ad (0 + 1 + 1) cs (S1 1 0 0))]) (is := [2]) (js := [0, 1, 3, 4, 5, 6, 7, 8, 9, 10, 11]) ⟨hx, hb, hml, hown, hts⟩ (k_X6_allDocks l dC dI cs ad (0 + 1 + 1) H8.size (S1 1 0 0) q226 gq226) (cwV 0 hts gX10_count_X6_allDocks rfl rfl rfl cd_X6_allDocks ⟨Nat.le_of_ble_eq_true rfl, Nat.le_of_ble_eq_true rfl⟩) hK hP hD hS hA ⟨rfl, rfl, rfl, rfl, rfl, rfl⟩ (jn_nd (is := [2]) hD rfl rfl) 2 5 rfl rfl rfl rfl rfl hl.1 (Nat.le_of_ble_eq_true rfl) dX10_count_226 (fun H226 locs226 hP' hD' hS' => ?_)
                          replace hS := hS'
                          replace hP : va_P (dC, dI) vwCl (fl [(w_X10 ad (0) cs en S1)]) H226 := hP'
                          replace hD : va_D A (fl [(w_X10 ad (0) cs en S1)]) := hD'
                          clear hP' hD' hS'
                          replace hR := Option.some.inj hR
                          have e9 := hR
                          exact W.iret hx hb hr (fun t ht hW => ⟨⟨_, (), rfl, e9, by rw [ht]; exact hP, va_K.moved hW.alike hK, hD⟩, hS.F ht⟩) hS.2.2 dX10_count_229
                        · replace hR := it_f hR c28_10
                          by_cases c28_11 : p1 = 11
                          · replace hR := it_t hR c28_11
                            refine lv_tableIn (off := 202) (tgt := 230) hx hb dX10_count_28 (by rw [c28_11]; decide) (by rw [c28_11]; decide) (by rw [c28_11]; rfl) (by decide) ?_
                            refine lv_aload_n hx hb dX10_count_230 rfl (lv_at hl 0 rfl) ?_
                            refine va_get (D := (dC, dI)) (ci := 8) (v := .ref (ad (0 + 1))) (C := RX10) (T := TX10) (N := 7) hx hb hts hinX10 hown hK hP 0 rfl rfl 0 (by decide) hF10 (fun _ h9 => h9) rfl dX10_count_231 ?_
                            refine va_get (D := (dC, dI)) (ci := 4) (v := .ref (ad (0 + 1 + 13))) (C := RX5) (T := TX5) (N := 6) hx hb hts hinX5 hown hK hP 1 rfl rfl 2 (by decide) hF153 (fun _ h9 => h9) rfl dX10_count_234 ?_
                            replace hR := bd_e hR
                            obtain ⟨q237, gq237, hR⟩ := hR
                            replace hP : va_P (dC, dI) vwCl (fl [[((ad 0), .inr (8, [.ref (ad (0 + 1)), .ref (ad (0 + 29)), .ref (ad (0 + 57)), .int (S1 1 3 2 0 0), .ref (ad (0 + 85)), .ref (ad (0 + 199)), .ref (ad (0 + 202))]))], [((ad (0 + 1)), .inr (4, [.ref (ad (0 + 1 + 1)), .ref (ad (0 + 1 + 6)), .ref (ad (0 + 1 + 13)), .ref (ad (0 + 1 + 23)), .ref (ad (0 + 1 + 27)), .int ((S1 1 0) 4 1 0)]))], (w_X6 ad (0 + 1 + 1) cs ((S1 1 0) 0)), (w_X1 ad (0 + 1 + 6) cs ((S1 1 0) 1)), (w_X4 ad (0 + 1 + 13) cs ((S1 1 0) 2)), (w_X8 ad (0 + 1 + 23) cs ((S1 1 0) 3)), [((ad (0 + 1 + 27)), .inl (cs 0, 3, .inl ((S1 1 0) 4 0)))], (w_X5 ad (0 + 29) cs (S1 1 1)), (w_X5 ad (0 + 57) cs (S1 1 2)), (w_X3 ad (0 + 85) cs (S1 0)), (w_X2 ad (0 + 199) cs (S1 1 3 0)), (w_X7 ad (0 + 202) cs en (S1 1 3 1))]) H8 := hP
                            replace hD : va_D A (fl [[((ad 0), .inr (8, [.ref (ad (0 + 1)), .ref (ad (0 + 29)), .ref (ad (0 + 57)), .int (S1 1 3 2 0 0), .ref (ad (0 + 85)), .ref (ad (0 + 199)), .ref (ad (0 + 202))]))], [((ad (0 + 1)), .inr (4, [.ref (ad (0 + 1 + 1)), .ref (ad (0 + 1 + 6)), .ref (ad (0 + 1 + 13)), .ref (ad (0 + 1 + 23)), .ref (ad (0 + 1 + 27)), .int ((S1 1 0) 4 1 0)]))], (w_X6 ad (0 + 1 + 1) cs ((S1 1 0) 0)), (w_X1 ad (0 + 1 + 6) cs ((S1 1 0) 1)), (w_X4 ad (0 + 1 + 13) cs ((S1 1 0) 2)), (w_X8 ad (0 + 1 + 23) cs ((S1 1 0) 3)), [((ad (0 + 1 + 27)), .inl (cs 0, 3, .inl ((S1 1 0) 4 0)))], (w_X5 ad (0 + 29) cs (S1 1 1)), (w_X5 ad (0 + 57) cs (S1 1 2)), (w_X3 ad (0 + 85) cs (S1 0)), (w_X2 ad (0 + 199) cs (S1 1 3 0)), (w_X7 ad (0 + 202) cs en (S1 1 3 1))]) := hD
                            refine cl_Vi (As := []) (rest := []) (L := [[((ad 0), .inr (8, [.ref (ad (0 + 1)), .ref (ad (0 + 29)), .ref (ad (0 + 57)), .int (S1 1 3 2 0 0), .ref (ad (0 + 85)), .ref (ad (0 + 199)), .ref (ad (0 + 202))]))], [((ad (0 + 1)), .inr (4, [.ref (ad (0 + 1 + 1)), .ref (ad (0 + 1 + 6)), .ref (ad (0 + 1 + 13)), .ref (ad (0 + 1 + 23)), .ref (ad (0 + 1 + 27)), .int ((S1 1 0) 4 1 0)]))], (w_X6 ad (0 + 1 + 1) cs ((S1 1 0) 0)), (w_X1 ad (0 + 1 + 6) cs ((S1 1 0) 1)), (w_X4 ad (0 + 1 + 13) cs ((S1 1 0) 2)), (w_X8 ad (0 + 1 + 23) cs ((S1 1 0) 3)), [((ad (0 + 1 + 27)), .inl (cs 0, 3, .inl ((S1 1 0) 4 0)))], (w_X5 ad (0 + 29) cs (S1 1 1)), (w_X5 ad (0 + 57) cs (S1 1 2)), (w_X3 ad (0 + 85) cs (S1 0)), (w_X2 ad (0 + 199) cs (S1 1 3 0)), (w_X7 ad (0 + 202) cs en (S1 1 3 1))]) (L' := [[((ad 0), .inr (8, [.ref (ad (0 + 1)), .ref (ad (0 + 29)), .ref (ad (0 + 57)), .int (S1 1 3 2 0 0), .ref (ad (0 + 85)), .ref (ad (0 + 199)), .ref (ad (0 + 202))]))], [((ad (0 + 1)), .inr (4, [.ref (ad (0 + 1 + 1)), .ref (ad (0 + 1 + 6)), .ref (ad (0 + 1 + 13)), .ref (ad (0 + 1 + 23)), .ref (ad (0 + 1 + 27)), .int ((S1 1 0) 4 1 0)]))], (w_X6 ad (0 + 1 + 1) cs ((S1 1 0) 0)), (w_X1 ad (0 + 1 + 6) cs ((S1 1 0) 1)), (w_X4 ad (0 + 1 + 13) cs ((S1 1 0) 2)), (w_X8 ad (0 + 1 + 23) cs ((S1 1 0) 3)), [((ad (0 + 1 + 27)), .inl (cs 0, 3, .inl ((S1 1 0) 4 0)))], (w_X5 ad (0 + 29) cs (S1 1 1)), (w_X5 ad (0 + 57) cs (S1 1 2)), (w_X3 ad (0 + 85) cs (S1 0)), (w_X2 ad (0 + 199) cs (S1 1 3 0)), (w_X7 ad (0 + 202) cs en (S1 1 3 1))]) (Wc := [(w_X4 ad (0 + 1 + 13) cs ((S1 1 0) 2))]) (Wc' := [(w_X4 ad (0 + 1 + 13) cs (S1 1 0 2))]) (is := [4]) (js := [0, 1, 2, 3, 5, 6, 7, 8, 9, 10, 11]) ⟨hx, hb, hml, hown, hts⟩ (k_X4_allOwed l dC dI cs ad (0 + 1 + 13) H8.size (S1 1 0 2) q237 gq237) (cwV 0 hts gX10_count_X4_allOwed rfl rfl rfl cd_X4_allOwed ⟨Nat.le_of_ble_eq_true rfl, Nat.le_of_ble_eq_true rfl⟩) hK hP hD hS hA ⟨rfl, rfl, rfl, rfl, rfl, rfl⟩ (jn_nd (is := [4]) hD rfl rfl) 14 3 rfl rfl rfl rfl rfl hl.1 (Nat.le_of_ble_eq_true rfl) dX10_count_237 (fun H237 locs237 hP' hD' hS' => ?_)
                            replace hS := hS'
                            replace hP : va_P (dC, dI) vwCl (fl [(w_X10 ad (0) cs en S1)]) H237 := hP'
                            replace hD : va_D A (fl [(w_X10 ad (0) cs en S1)]) := hD'
                            clear hP' hD' hS'
                            replace hR := Option.some.inj hR
                            have e9 := hR
                            exact W.iret hx hb hr (fun t ht hW => ⟨⟨_, (), rfl, e9, by rw [ht]; exact hP, va_K.moved hW.alike hK, hD⟩, hS.F ht⟩) hS.2.2 dX10_count_240
                          · replace hR := it_f hR c28_11
                            by_cases c28_12 : p1 = 12
                            · replace hR := it_t hR c28_12
                              refine lv_tableIn (off := 213) (tgt := 241) hx hb dX10_count_28 (by rw [c28_12]; decide) (by rw [c28_12]; decide) (by rw [c28_12]; rfl) (by decide) ?_
                              refine lv_aload_n hx hb dX10_count_241 rfl (lv_at hl 0 rfl) ?_
                              refine va_get (D := (dC, dI)) (ci := 8) (v := .ref (ad (0 + 1))) (C := RX10) (T := TX10) (N := 7) hx hb hts hinX10 hown hK hP 0 rfl rfl 0 (by decide) hF10 (fun _ h9 => h9) rfl dX10_count_242 ?_
                              replace hR := bd_e hR
                              obtain ⟨q245, gq245, hR⟩ := hR
                              replace hP : va_P (dC, dI) vwCl (fl [[((ad 0), .inr (8, [.ref (ad (0 + 1)), .ref (ad (0 + 29)), .ref (ad (0 + 57)), .int (S1 1 3 2 0 0), .ref (ad (0 + 85)), .ref (ad (0 + 199)), .ref (ad (0 + 202))]))], (w_X5 ad (0 + 1) cs (S1 1 0)), (w_X5 ad (0 + 29) cs (S1 1 1)), (w_X5 ad (0 + 57) cs (S1 1 2)), (w_X3 ad (0 + 85) cs (S1 0)), (w_X2 ad (0 + 199) cs (S1 1 3 0)), (w_X7 ad (0 + 202) cs en (S1 1 3 1))]) H8 := hP
                              replace hD : va_D A (fl [[((ad 0), .inr (8, [.ref (ad (0 + 1)), .ref (ad (0 + 29)), .ref (ad (0 + 57)), .int (S1 1 3 2 0 0), .ref (ad (0 + 85)), .ref (ad (0 + 199)), .ref (ad (0 + 202))]))], (w_X5 ad (0 + 1) cs (S1 1 0)), (w_X5 ad (0 + 29) cs (S1 1 1)), (w_X5 ad (0 + 57) cs (S1 1 2)), (w_X3 ad (0 + 85) cs (S1 0)), (w_X2 ad (0 + 199) cs (S1 1 3 0)), (w_X7 ad (0 + 202) cs en (S1 1 3 1))]) := hD
                              refine cl_Vi (As := []) (rest := []) (L := [[((ad 0), .inr (8, [.ref (ad (0 + 1)), .ref (ad (0 + 29)), .ref (ad (0 + 57)), .int (S1 1 3 2 0 0), .ref (ad (0 + 85)), .ref (ad (0 + 199)), .ref (ad (0 + 202))]))], (w_X5 ad (0 + 1) cs (S1 1 0)), (w_X5 ad (0 + 29) cs (S1 1 1)), (w_X5 ad (0 + 57) cs (S1 1 2)), (w_X3 ad (0 + 85) cs (S1 0)), (w_X2 ad (0 + 199) cs (S1 1 3 0)), (w_X7 ad (0 + 202) cs en (S1 1 3 1))]) (L' := [[((ad 0), .inr (8, [.ref (ad (0 + 1)), .ref (ad (0 + 29)), .ref (ad (0 + 57)), .int (S1 1 3 2 0 0), .ref (ad (0 + 85)), .ref (ad (0 + 199)), .ref (ad (0 + 202))]))], (w_X5 ad (0 + 1) cs (S1 1 0)), (w_X5 ad (0 + 29) cs (S1 1 1)), (w_X5 ad (0 + 57) cs (S1 1 2)), (w_X3 ad (0 + 85) cs (S1 0)), (w_X2 ad (0 + 199) cs (S1 1 3 0)), (w_X7 ad (0 + 202) cs en (S1 1 3 1))]) (Wc := [(w_X5 ad (0 + 1) cs (S1 1 0))]) (Wc' := [(w_X5 ad (0 + 1) cs (S1 1 0))]) (is := [1]) (js := [0, 2, 3, 4, 5, 6]) ⟨hx, hb, hml, hown, hts⟩ (k_X5_allUnevenness l dC dI cs ad (0 + 1) H8.size (S1 1 0) q245 gq245) (cwV 0 hts gX10_count_X5_allUnevenness rfl rfl rfl cd_X5_allUnevenness ⟨Nat.le_of_ble_eq_true rfl, Nat.le_of_ble_eq_true rfl⟩) hK hP hD hS hA ⟨rfl, rfl, rfl, rfl, rfl, rfl⟩ (jn_nd (is := [1]) hD rfl rfl) 1 4 rfl rfl rfl rfl rfl hl.1 (Nat.le_of_ble_eq_true rfl) dX10_count_245 (fun H245 locs245 hP' hD' hS' => ?_)
                              replace hS := hS'
                              replace hP : va_P (dC, dI) vwCl (fl [(w_X10 ad (0) cs en S1)]) H245 := hP'
                              replace hD : va_D A (fl [(w_X10 ad (0) cs en S1)]) := hD'
                              clear hP' hD' hS'
                              replace hR := Option.some.inj hR
                              have e9 := hR
                              exact W.iret hx hb hr (fun t ht hW => ⟨⟨_, (), rfl, e9, by rw [ht]; exact hP, va_K.moved hW.alike hK, hD⟩, hS.F ht⟩) hS.2.2 dX10_count_248
                            · replace hR := it_f hR c28_12
                              by_cases c28_13 : p1 = 13
                              · replace hR := it_t hR c28_13
                                refine lv_tableIn (off := 221) (tgt := 249) hx hb dX10_count_28 (by rw [c28_13]; decide) (by rw [c28_13]; decide) (by rw [c28_13]; rfl) (by decide) ?_
                                refine lv_aload_n hx hb dX10_count_249 rfl (lv_at hl 0 rfl) ?_
                                refine va_get (D := (dC, dI)) (ci := 8) (v := .ref (ad (0 + 85))) (C := RX10) (T := TX10) (N := 7) hx hb hts hinX10 hown hK hP 0 rfl rfl 4 (by decide) hF25 (fun _ h9 => h9) rfl dX10_count_250 ?_
                                refine va_get (D := (dC, dI)) (ci := 2) (v := .int (S1 0 4 0 0 0)) (C := RX3) (T := TX3) (N := 3) hx hb hts hinX3 hown hK hP 85 rfl rfl 0 (by decide) hF228 (fun _ h9 => h9) rfl dX10_count_253 ?_
                                replace hR := Option.some.inj hR
                                have e9 := hR
                                exact W.iret hx hb hr (fun t ht hW => ⟨⟨_, (), rfl, e9, by rw [ht]; exact hP, va_K.moved hW.alike hK, hD⟩, hS.F ht⟩) hS.2.2 dX10_count_256
                              · replace hR := it_f hR c28_13
                                by_cases c28_14 : p1 = 14
                                · replace hR := it_t hR c28_14
                                  refine lv_tableIn (off := 229) (tgt := 257) hx hb dX10_count_28 (by rw [c28_14]; decide) (by rw [c28_14]; decide) (by rw [c28_14]; rfl) (by decide) ?_
                                  refine lv_aload_n hx hb dX10_count_257 rfl (lv_at hl 0 rfl) ?_
                                  refine va_get (D := (dC, dI)) (ci := 8) (v := .ref (ad (0 + 202))) (C := RX10) (T := TX10) (N := 7) hx hb hts hinX10 hown hK hP 0 rfl rfl 6 (by decide) hF39 (fun _ h9 => h9) rfl dX10_count_258 ?_
                                  refine va_get (D := (dC, dI)) (ci := 6) (v := .int (S1 1 3 1 2 0)) (C := RX7) (T := TX7) (N := 9) hx hb hts hinX7 hown hK hP 202 rfl rfl 0 (by decide) hF229 (fun _ h9 => h9) rfl dX10_count_261 ?_
                                  replace hR := Option.some.inj hR
                                  have e9 := hR
                                  exact W.iret hx hb hr (fun t ht hW => ⟨⟨_, (), rfl, e9, by rw [ht]; exact hP, va_K.moved hW.alike hK, hD⟩, hS.F ht⟩) hS.2.2 dX10_count_264
                                · replace hR := it_f hR c28_14
                                  by_cases c28_15 : p1 = 15
                                  · replace hR := it_t hR c28_15
                                    refine lv_tableIn (off := 237) (tgt := 265) hx hb dX10_count_28 (by rw [c28_15]; decide) (by rw [c28_15]; decide) (by rw [c28_15]; rfl) (by decide) ?_
                                    refine lv_aload_n hx hb dX10_count_265 rfl (lv_at hl 0 rfl) ?_
                                    refine va_get (D := (dC, dI)) (ci := 8) (v := .int (S1 1 3 2 0 0)) (C := RX10) (T := TX10) (N := 7) hx hb hts hinX10 hown hK hP 0 rfl rfl 3 (by decide) hF232 (fun _ h9 => h9) rfl dX10_count_266 ?_
                                    refine lv_if_eq (tgt := 276) hx hb dX10_count_269 (by decide) (fun c269 => ?_) (fun c269 => ?_)
                                    · replace hR := it_t hR c269
                                      refine lv_iconst (v := 0) hx hb dX10_count_276 ic_0 ?_
                                      replace hR := Option.some.inj hR
                                      have e9 := hR
                                      exact W.iret hx hb hr (fun t ht hW => ⟨⟨_, (), rfl, e9, by rw [ht]; exact hP, va_K.moved hW.alike hK, hD⟩, hS.F ht⟩) hS.2.2 dX10_count_277
                                    · replace hR := it_f hR c269
                                      refine lv_iconst (v := 1) hx hb dX10_count_272 ic_1 ?_
                                      refine lv_goto (tgt := 277) hx hb dX10_count_273 (by decide) ?_
                                      replace hR := Option.some.inj hR
                                      have e9 := hR
                                      exact W.iret hx hb hr (fun t ht hW => ⟨⟨_, (), rfl, e9, by rw [ht]; exact hP, va_K.moved hW.alike hK, hD⟩, hS.F ht⟩) hS.2.2 dX10_count_277
                                  · replace hR := it_f hR c28_15
                                    refine lv_tableOut (tgt := 278) hx hb dX10_count_28 (by have n0 := lv_neT (a := 0) c28_0 rfl; have n1 := lv_neT (a := 1) c28_1 rfl; have n2 := lv_neT (a := 2) c28_2 rfl; have n3 := lv_neT (a := 3) c28_3 rfl; have n4 := lv_neT (a := 4) c28_4 rfl; have n5 := lv_neT (a := 5) c28_5 rfl; have n6 := lv_neT (a := 6) c28_6 rfl; have n7 := lv_neT (a := 7) c28_7 rfl; have n8 := lv_neT (a := 8) c28_8 rfl; have n9 := lv_neT (a := 9) c28_9 rfl; have n10 := lv_neT (a := 10) c28_10 rfl; have n11 := lv_neT (a := 11) c28_11 rfl; have n12 := lv_neT (a := 12) c28_12 rfl; have n13 := lv_neT (a := 13) c28_13 rfl; have n14 := lv_neT (a := 14) c28_14 rfl; have n15 := lv_neT (a := 15) c28_15 rfl; omega) (by decide) ?_
                                    refine lv_iconst (v := (-1)) hx hb dX10_count_278 ic_m1 ?_
                                    replace hR := Option.some.inj hR
                                    have e9 := hR
                                    exact W.iret hx hb hr (fun t ht hW => ⟨⟨_, (), rfl, e9, by rw [ht]; exact hP, va_K.moved hW.alike hK, hD⟩, hS.F ht⟩) hS.2.2 dX10_count_279
  · replace hR := it_f hR c11
    refine lv_aload_n hx hb dX10_count_14 rfl (lv_at hl 0 rfl) ?_
    refine va_get (D := (dC, dI)) (ci := 8) (v := .ref (ad (0 + 1))) (C := RX10) (T := TX10) (N := 7) hx hb hts hinX10 hown hK hP 0 rfl rfl 0 (by decide) hF10 (fun _ h9 => h9) rfl dX10_count_15 ?_
    refine va_get (D := (dC, dI)) (ci := 4) (v := .ref (ad (0 + 1 + 27))) (C := RX5) (T := TX5) (N := 6) hx hb hts hinX5 hown hK hP 1 rfl rfl 4 (by decide) hF204 (fun _ h9 => h9) rfl dX10_count_18 ?_
    refine lv_iload_n hx hb dX10_count_21 rfl (lv_at hl 1 rfl) ?_
    refine lv_bipush (v := 20) hx hb dX10_count_22 bp_20 ?_
    refine lv_isub hx hb dX10_count_24 ?_
    replace hR := gi_e hR
    obtain ⟨i25, hR⟩ := hR
    refine va_iald hx hb hK hP 28 0 rfl rfl i25 dX10_count_25 ?_
    replace hR := Option.some.inj hR
    have e9 := hR
    exact W.iret hx hb hr (fun t ht hW => ⟨⟨_, (), rfl, e9, by rw [ht]; exact hP, va_K.moved hW.alike hK, hD⟩, hS.F ht⟩) hS.2.2 dX10_count_26
