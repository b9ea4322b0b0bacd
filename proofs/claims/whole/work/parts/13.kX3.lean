set_option maxHeartbeats 8000000 in
set_option maxRecDepth 100000 in
theorem k_X5_firstWithFreeDock (l : Launch) (dC : Nat → ClassId) (dI : Nat → Nat → Nat) (cs : Nat → ClassId) (ad : Nat → Nat) (b1 : Nat) (sz : Nat) (S1 : T3) (r : Int32) (hR : fX5_firstWithFreeDock S1 = some r) : Met l yX5_firstWithFreeDock wsX5_firstWithFreeDock ({ frames := 1, cells := 0, slots := 0, locals := 24 } : Room) (va_Pc [.ref (ad b1)] (pW dC dI (tyL cs) (fl [(w_X5 ad (b1) cs S1)]) sz)) (QI dC dI (tyL cs) (va_A (fl [(w_X5 ad (b1) cs S1)]) sz) (fl [(w_X5 ad (b1) cs S1)]) r) 0 0 (va_A (fl [(w_X5 ad (b1) cs S1)]) sz) := by
  refine mt_of (own := RX5) (cc := cX5_firstWithFreeDock) (maxL := 2) (ret := (some .int)) (Qc := fun A => QI dC dI (tyL cs) A (fl [(w_X5 ad (b1) cs S1)]) r) rfl (by decide) rfl (Nat.le_of_ble_eq_true rfl) (fun p e s m below meth c A ls hsz hx hb hr hts hown hlocks hml hA hK hP hD hS hl => ?_)
  subst hsz
  have hl : lv_has ls 2 [(0, .ref (ad b1))] := hl
  have hF12 := hts (.fieldLink RX5 12 "DockedBikes$Road" "stations" "LDockedBikes$Stations;") (List.mem_of_getElem? (i := 1) rfl)
  have hF21 := hts (.fieldLink RX5 21 "DockedBikes$Road" "bicycles" "LDockedBikes$Bicycles;") (List.mem_of_getElem? (i := 3) rfl)
  have hF192 := hts (.fieldLink RX5 192 "DockedBikes$Stations" "docks" "[I") (List.mem_of_getElem? (i := 4) rfl)
  have hF198 := hts (.fieldLink RX5 198 "DockedBikes$Stations" "size" "I") (List.mem_of_getElem? (i := 2) rfl)
  have hinX5 : ∀ w ∈ wsX50, w ∈ wsX5_firstWithFreeDock := by decide +kernel
  have hinX6 : ∀ w ∈ wsX60, w ∈ wsX5_firstWithFreeDock := by decide +kernel
  have hB2 : ∀ (n2 : Nat), ∀ (v1_2 : Int32) (H : Heap) (locs : List Loc) (ls : Array Slot), fX5_firstWithFreeDock_2 S1 n2 v1_2 = some r → va_P (dC, dI) vwCl (fl [(w_X5 ad (b1) cs S1)]) H → va_D A (fl [(w_X5 ad (b1) cs S1)]) → va_S A s.heap H locs → lv_has ls 2 [(0, .ref (ad b1)), (1, .int v1_2)] → W p l e (headSpec wsX5_firstWithFreeDock ({ frames := 1, cells := 0, slots := 0, locals := 24 } : Room)).room s m ([.ref (ad b1)] : List Value).toArray below meth c H locs 0 0 (MQ below (QI dC dI (tyL cs) A (fl [(w_X5 ad (b1) cs S1)]) r) ([.ref (ad b1)] : List Value).toArray s 0 0 A) (F0 m 2 ls []) := by
    intro n2
    induction n2 with
    | zero =>
      intro v1_2 H locs ls hR hP hD hS hl
      exact nn_e hR
    | succ n2 hI2 =>
      intro v1_2 H locs ls hR hP hD hS hl
      rw [fX5_firstWithFreeDock_2] at hR
      refine lv_iload_n hx hb dX5_firstWithFreeDock_2 rfl (lv_at hl 1 rfl) ?_
      refine lv_aload_n hx hb dX5_firstWithFreeDock_3 rfl (lv_at hl 0 rfl) ?_
      refine va_get (D := (dC, dI)) (ci := 4) (v := .ref (ad (b1 + 1))) (C := RX5) (T := TX5) (N := 6) hx hb hts hinX5 hown hK hP 0 rfl rfl 0 (by decide) hF12 (fun _ h9 => h9) rfl dX5_firstWithFreeDock_4 ?_
      refine va_get (D := (dC, dI)) (ci := 5) (v := .int (S1 0 4 0)) (C := RX6) (T := TX6) (N := 5) hx hb hts hinX6 hown hK hP 1 rfl rfl 0 (by decide) hF198 (fun _ h9 => h9) rfl dX5_firstWithFreeDock_7 ?_
      refine lv_icmp_ge (tgt := 42) hx hb dX5_firstWithFreeDock_10 (by decide) (fun c10 => ?_) (fun c10 => ?_)
      · replace hR := it_t hR c10
        refine lv_iconst (v := (-1)) hx hb dX5_firstWithFreeDock_42 ic_m1 ?_
        replace hR := Option.some.inj hR
        have e9 := hR
        exact W.iret hx hb hr (fun t ht hW => ⟨⟨_, (), rfl, e9, by rw [ht]; exact hP, va_K.moved hW.alike hK, hD⟩, hS.F ht⟩) hS.2.2 dX5_firstWithFreeDock_43
      · replace hR := it_f hR c10
        refine lv_aload_n hx hb dX5_firstWithFreeDock_13 rfl (lv_at hl 0 rfl) ?_
        refine va_get (D := (dC, dI)) (ci := 4) (v := .ref (ad (b1 + 6))) (C := RX5) (T := TX5) (N := 6) hx hb hts hinX5 hown hK hP 0 rfl rfl 1 (by decide) hF21 (fun _ h9 => h9) rfl dX5_firstWithFreeDock_14 ?_
        refine lv_iconst (v := 0) hx hb dX5_firstWithFreeDock_17 ic_0 ?_
        refine lv_iload_n hx hb dX5_firstWithFreeDock_18 rfl (lv_at hl 1 rfl) ?_
        replace hR := bd_e hR
        obtain ⟨q19, gq19, hR⟩ := hR
        replace hP : va_P (dC, dI) vwCl (fl [[((ad b1), .inr (4, [.ref (ad (b1 + 1)), .ref (ad (b1 + 6)), .ref (ad (b1 + 13)), .ref (ad (b1 + 23)), .ref (ad (b1 + 27)), .int (S1 4 1 0)]))], (w_X6 ad (b1 + 1) cs (S1 0)), (w_X1 ad (b1 + 6) cs (S1 1)), (w_X4 ad (b1 + 13) cs (S1 2)), (w_X8 ad (b1 + 23) cs (S1 3)), [((ad (b1 + 27)), .inl (cs 0, 3, .inl (S1 4 0)))]]) H := hP
        replace hD : va_D A (fl [[((ad b1), .inr (4, [.ref (ad (b1 + 1)), .ref (ad (b1 + 6)), .ref (ad (b1 + 13)), .ref (ad (b1 + 23)), .ref (ad (b1 + 27)), .int (S1 4 1 0)]))], (w_X6 ad (b1 + 1) cs (S1 0)), (w_X1 ad (b1 + 6) cs (S1 1)), (w_X4 ad (b1 + 13) cs (S1 2)), (w_X8 ad (b1 + 23) cs (S1 3)), [((ad (b1 + 27)), .inl (cs 0, 3, .inl (S1 4 0)))]]) := hD
        refine cl_Vi (As := [.int (0 : Int32), .int v1_2]) (rest := []) (L := [[((ad b1), .inr (4, [.ref (ad (b1 + 1)), .ref (ad (b1 + 6)), .ref (ad (b1 + 13)), .ref (ad (b1 + 23)), .ref (ad (b1 + 27)), .int (S1 4 1 0)]))], (w_X6 ad (b1 + 1) cs (S1 0)), (w_X1 ad (b1 + 6) cs (S1 1)), (w_X4 ad (b1 + 13) cs (S1 2)), (w_X8 ad (b1 + 23) cs (S1 3)), [((ad (b1 + 27)), .inl (cs 0, 3, .inl (S1 4 0)))]]) (L' := [[((ad b1), .inr (4, [.ref (ad (b1 + 1)), .ref (ad (b1 + 6)), .ref (ad (b1 + 13)), .ref (ad (b1 + 23)), .ref (ad (b1 + 27)), .int (S1 4 1 0)]))], (w_X6 ad (b1 + 1) cs (S1 0)), (w_X1 ad (b1 + 6) cs (S1 1)), (w_X4 ad (b1 + 13) cs (S1 2)), (w_X8 ad (b1 + 23) cs (S1 3)), [((ad (b1 + 27)), .inl (cs 0, 3, .inl (S1 4 0)))]]) (Wc := [(w_X1 ad (b1 + 6) cs (S1 1))]) (Wc' := [(w_X1 ad (b1 + 6) cs (S1 1))]) (is := [2]) (js := [0, 1, 3, 4, 5]) ⟨hx, hb, hml, hown, hts⟩ (k_X1_countAt l dC dI cs ad (b1 + 6) H.size (S1 1) (0 : Int32) v1_2 q19 gq19) (cwV 2 hts gX5_firstWithFreeDock_X1_countAt rfl rfl rfl cd_X1_countAt ⟨Nat.le_of_ble_eq_true rfl, Nat.le_of_ble_eq_true rfl⟩) hK hP hD hS hA ⟨rfl, rfl, rfl, rfl, rfl, rfl⟩ (jn_nd (is := [2]) hD rfl rfl) 6 0 rfl rfl rfl rfl rfl hl.1 (Nat.le_of_ble_eq_true rfl) dX5_firstWithFreeDock_19 (fun H19 locs19 hP' hD' hS' => ?_)
        replace hS := hS'
        replace hP : va_P (dC, dI) vwCl (fl [(w_X5 ad (b1) cs S1)]) H19 := hP'
        replace hD : va_D A (fl [(w_X5 ad (b1) cs S1)]) := hD'
        clear hP' hD' hS'
        refine lv_aload_n hx hb dX5_firstWithFreeDock_22 rfl (lv_at hl 0 rfl) ?_
        refine va_get (D := (dC, dI)) (ci := 4) (v := .ref (ad (b1 + 1))) (C := RX5) (T := TX5) (N := 6) hx hb hts hinX5 hown hK hP 0 rfl rfl 0 (by decide) hF12 (fun _ h9 => h9) rfl dX5_firstWithFreeDock_23 ?_
        refine va_get (D := (dC, dI)) (ci := 5) (v := .ref (ad (b1 + 1 + 2))) (C := RX6) (T := TX6) (N := 5) hx hb hts hinX6 hown hK hP 1 rfl rfl 2 (by decide) hF192 (fun _ h9 => h9) rfl dX5_firstWithFreeDock_26 ?_
        refine lv_iload_n hx hb dX5_firstWithFreeDock_29 rfl (lv_at hl 1 rfl) ?_
        replace hR := gi_e hR
        obtain ⟨i30, hR⟩ := hR
        refine va_iald hx hb hK hP 3 0 rfl rfl i30 dX5_firstWithFreeDock_30 ?_
        refine lv_icmp_ge (tgt := 36) hx hb dX5_firstWithFreeDock_31 (by decide) (fun c31 => ?_) (fun c31 => ?_)
        · replace hR := it_t hR c31
          refine lv_iinc (v := (v1_2 + 1)) (lv' := [(1, .int (v1_2 + 1)), (0, .ref (ad b1))]) hx hb dX5_firstWithFreeDock_36 hl (k := 1) rfl rfl (Nat.le_of_ble_eq_true rfl) rfl (fun ls hl => ?_)
          refine lv_goto (tgt := 2) hx hb dX5_firstWithFreeDock_39 (by decide) ?_
          exact hI2 (v1_2 + 1) H19 _ ls hR hP hD hS (lv_sub hl [1, 0] rfl)
        · replace hR := it_f hR c31
          refine lv_iload_n hx hb dX5_firstWithFreeDock_34 rfl (lv_at hl 1 rfl) ?_
          replace hR := Option.some.inj hR
          have e9 := hR
          exact W.iret hx hb hr (fun t ht hW => ⟨⟨_, (), rfl, e9, by rw [ht]; exact hP, va_K.moved hW.alike hK, hD⟩, hS.F ht⟩) hS.2.2 dX5_firstWithFreeDock_35
  refine lv_iconst (v := 0) hx hb dX5_firstWithFreeDock_0 ic_0 ?_
  refine lv_istore_n (lv' := [(1, .int (0 : Int32)), (0, .ref (ad b1))]) hx hb dX5_firstWithFreeDock_1 rfl hl (Nat.le_of_ble_eq_true rfl) rfl (fun ls hl => ?_)
  exact hB2 fuel (0 : Int32) s.heap _ ls hR hP hD hS (lv_sub hl [1, 0] rfl)
set_option maxHeartbeats 8000000 in
set_option maxRecDepth 100000 in
theorem k_X5_dockReadyBicycles (l : Launch) (dC : Nat → ClassId) (dI : Nat → Nat → Nat) (cs : Nat → ClassId) (ad : Nat → Nat) (b1 : Nat) (sz : Nat) (S1 : T3) (r : Int32) (u1 : T3) (hR : fX5_dockReadyBicycles S1 = some (r, u1)) : Met l yX5_dockReadyBicycles wsX5_dockReadyBicycles ({ frames := 2, cells := 0, slots := 0, locals := 45 } : Room) (va_Pc [.ref (ad b1)] (pW dC dI (tyL cs) (fl [(w_X5 ad (b1) cs S1)]) sz)) (QI dC dI (tyL cs) (va_A (fl [(w_X5 ad (b1) cs S1)]) sz) (fl [(w_X5 ad (b1) cs u1)]) r) 0 0 (va_A (fl [(w_X5 ad (b1) cs S1)]) sz) := by
  refine mt_of (own := RX5) (cc := cX5_dockReadyBicycles) (maxL := 4) (ret := (some .int)) (Qc := fun A => QI dC dI (tyL cs) A (fl [(w_X5 ad (b1) cs u1)]) r) rfl (by decide) rfl (Nat.le_of_ble_eq_true rfl) (fun p e s m below meth c A ls hsz hx hb hr hts hown hlocks hml hA hK hP hD hS hl => ?_)
  subst hsz
  have hl : lv_has ls 4 [(0, .ref (ad b1))] := hl
  have hF21 := hts (.fieldLink RX5 21 "DockedBikes$Road" "bicycles" "LDockedBikes$Bicycles;") (List.mem_of_getElem? (i := 1) rfl)
  have hF62 := hts (.fieldLink RX5 62 "DockedBikes$Road" "time" "I") (List.mem_of_getElem? (i := 3) rfl)
  have hF204 := hts (.fieldLink RX5 204 "DockedBikes$Bicycles" "size" "I") (List.mem_of_getElem? (i := 2) rfl)
  have hinX1 : ∀ w ∈ wsX10, w ∈ wsX5_dockReadyBicycles := by decide +kernel
  have hinX5 : ∀ w ∈ wsX50, w ∈ wsX5_dockReadyBicycles := by decide +kernel
  have hB4 : ∀ (n4 : Nat), ∀ (S1_4h : T3) (v1_4 : Int32) (v2_4 : Int32) (H : Heap) (locs : List Loc) (ls : Array Slot), fX5_dockReadyBicycles_4 n4 S1_4h v1_4 v2_4 = some (r, u1) → va_P (dC, dI) vwCl (fl [(w_X5 ad (b1) cs S1_4h)]) H → va_D A (fl [(w_X5 ad (b1) cs S1_4h)]) → va_S A s.heap H locs → lv_has ls 4 [(0, .ref (ad b1)), (1, .int v1_4), (2, .int v2_4)] → W p l e (headSpec wsX5_dockReadyBicycles ({ frames := 2, cells := 0, slots := 0, locals := 45 } : Room)).room s m ([.ref (ad b1)] : List Value).toArray below meth c H locs 0 0 (MQ below (QI dC dI (tyL cs) A (fl [(w_X5 ad (b1) cs u1)]) r) ([.ref (ad b1)] : List Value).toArray s 0 0 A) (F0 m 4 ls []) := by
    intro n4
    induction n4 with
    | zero =>
      intro S1_4h v1_4 v2_4 H locs ls hR hP hD hS hl
      exact nn_e hR
    | succ n4 hI4 =>
      have hB60 : ∀ (S1_60h : T3) (v1_60 : Int32) (v2_60 : Int32) (H : Heap) (locs : List Loc) (ls : Array Slot), fX5_dockReadyBicycles_60 (fX5_dockReadyBicycles_4 n4) S1_60h v1_60 v2_60 = some (r, u1) → va_P (dC, dI) vwCl (fl [(w_X5 ad (b1) cs S1_60h)]) H → va_D A (fl [(w_X5 ad (b1) cs S1_60h)]) → va_S A s.heap H locs → lv_has ls 4 [(0, .ref (ad b1)), (1, .int v1_60), (2, .int v2_60)] → W p l e (headSpec wsX5_dockReadyBicycles ({ frames := 2, cells := 0, slots := 0, locals := 45 } : Room)).room s m ([.ref (ad b1)] : List Value).toArray below meth c H locs 0 0 (MQ below (QI dC dI (tyL cs) A (fl [(w_X5 ad (b1) cs u1)]) r) ([.ref (ad b1)] : List Value).toArray s 0 0 A) (F0 m 60 ls []) := by
        intro S1_60h v1_60 v2_60 H locs ls hR hP hD hS hl
        refine lv_iinc (v := (v2_60 + 1)) (lv' := [(2, .int (v2_60 + 1)), (0, .ref (ad b1)), (1, .int v1_60)]) hx hb dX5_dockReadyBicycles_60 hl (k := 2) rfl rfl (Nat.le_of_ble_eq_true rfl) rfl (fun ls hl => ?_)
        refine lv_goto (tgt := 4) hx hb dX5_dockReadyBicycles_63 (by decide) ?_
        exact hI4 S1_60h v1_60 (v2_60 + 1) H _ ls hR hP hD hS (lv_sub hl [1, 2, 0] rfl)
      intro S1_4h v1_4 v2_4 H locs ls hR hP hD hS hl
      rw [fX5_dockReadyBicycles_4] at hR
      refine lv_iload_n hx hb dX5_dockReadyBicycles_4 rfl (lv_at hl 2 rfl) ?_
      refine lv_aload_n hx hb dX5_dockReadyBicycles_5 rfl (lv_at hl 0 rfl) ?_
      refine va_get (D := (dC, dI)) (ci := 4) (v := .ref (ad (b1 + 6))) (C := RX5) (T := TX5) (N := 6) hx hb hts hinX5 hown hK hP 0 rfl rfl 1 (by decide) hF21 (fun _ h9 => h9) rfl dX5_dockReadyBicycles_6 ?_
      refine va_get (D := (dC, dI)) (ci := 0) (v := .int (S1_4h 1 6 0)) (C := RX1) (T := TX1) (N := 7) hx hb hts hinX1 hown hK hP 6 rfl rfl 0 (by decide) hF204 (fun _ h9 => h9) rfl dX5_dockReadyBicycles_9 ?_
      refine lv_icmp_ge (tgt := 66) hx hb dX5_dockReadyBicycles_12 (by decide) (fun c12 => ?_) (fun c12 => ?_)
      · replace hR := it_t hR c12
        refine lv_iload_n hx hb dX5_dockReadyBicycles_66 rfl (lv_at hl 1 rfl) ?_
        replace hR := Option.some.inj hR
        obtain ⟨e9, hR⟩ := Prod.mk.inj hR
        have eu1 := hR
        replace hP : va_P (dC, dI) vwCl (fl [(w_X5 ad (b1) cs u1)]) H := by rw [← eu1]; exact hP
        replace hD : va_D A (fl [(w_X5 ad (b1) cs u1)]) := by rw [← eu1]; exact hD
        exact W.iret hx hb hr (fun t ht hW => ⟨⟨_, (), rfl, e9, by rw [ht]; exact hP, va_K.moved hW.alike hK, hD⟩, hS.F ht⟩) hS.2.2 dX5_dockReadyBicycles_67
      · replace hR := it_f hR c12
        refine lv_aload_n hx hb dX5_dockReadyBicycles_15 rfl (lv_at hl 0 rfl) ?_
        refine va_get (D := (dC, dI)) (ci := 4) (v := .ref (ad (b1 + 6))) (C := RX5) (T := TX5) (N := 6) hx hb hts hinX5 hown hK hP 0 rfl rfl 1 (by decide) hF21 (fun _ h9 => h9) rfl dX5_dockReadyBicycles_16 ?_
        refine lv_iload_n hx hb dX5_dockReadyBicycles_19 rfl (lv_at hl 2 rfl) ?_
        refine lv_aload_n hx hb dX5_dockReadyBicycles_20 rfl (lv_at hl 0 rfl) ?_
        refine va_get (D := (dC, dI)) (ci := 4) (v := .int (S1_4h 4 1 0)) (C := RX5) (T := TX5) (N := 6) hx hb hts hinX5 hown hK hP 0 rfl rfl 5 (by decide) hF62 (fun _ h9 => h9) rfl dX5_dockReadyBicycles_21 ?_
        replace hR := bd_e hR
        obtain ⟨q24, gq24, hR⟩ := hR
        replace hP : va_P (dC, dI) vwCl (fl [[((ad b1), .inr (4, [.ref (ad (b1 + 1)), .ref (ad (b1 + 6)), .ref (ad (b1 + 13)), .ref (ad (b1 + 23)), .ref (ad (b1 + 27)), .int (S1_4h 4 1 0)]))], (w_X6 ad (b1 + 1) cs (S1_4h 0)), (w_X1 ad (b1 + 6) cs (S1_4h 1)), (w_X4 ad (b1 + 13) cs (S1_4h 2)), (w_X8 ad (b1 + 23) cs (S1_4h 3)), [((ad (b1 + 27)), .inl (cs 0, 3, .inl (S1_4h 4 0)))]]) H := hP
        replace hD : va_D A (fl [[((ad b1), .inr (4, [.ref (ad (b1 + 1)), .ref (ad (b1 + 6)), .ref (ad (b1 + 13)), .ref (ad (b1 + 23)), .ref (ad (b1 + 27)), .int (S1_4h 4 1 0)]))], (w_X6 ad (b1 + 1) cs (S1_4h 0)), (w_X1 ad (b1 + 6) cs (S1_4h 1)), (w_X4 ad (b1 + 13) cs (S1_4h 2)), (w_X8 ad (b1 + 23) cs (S1_4h 3)), [((ad (b1 + 27)), .inl (cs 0, 3, .inl (S1_4h 4 0)))]]) := hD
        refine cl_Vi (As := [.int v2_4, .int (S1_4h 4 1 0)]) (rest := []) (L := [[((ad b1), .inr (4, [.ref (ad (b1 + 1)), .ref (ad (b1 + 6)), .ref (ad (b1 + 13)), .ref (ad (b1 + 23)), .ref (ad (b1 + 27)), .int (S1_4h 4 1 0)]))], (w_X6 ad (b1 + 1) cs (S1_4h 0)), (w_X1 ad (b1 + 6) cs (S1_4h 1)), (w_X4 ad (b1 + 13) cs (S1_4h 2)), (w_X8 ad (b1 + 23) cs (S1_4h 3)), [((ad (b1 + 27)), .inl (cs 0, 3, .inl (S1_4h 4 0)))]]) (L' := [[((ad b1), .inr (4, [.ref (ad (b1 + 1)), .ref (ad (b1 + 6)), .ref (ad (b1 + 13)), .ref (ad (b1 + 23)), .ref (ad (b1 + 27)), .int (S1_4h 4 1 0)]))], (w_X6 ad (b1 + 1) cs (S1_4h 0)), (w_X1 ad (b1 + 6) cs (S1_4h 1)), (w_X4 ad (b1 + 13) cs (S1_4h 2)), (w_X8 ad (b1 + 23) cs (S1_4h 3)), [((ad (b1 + 27)), .inl (cs 0, 3, .inl (S1_4h 4 0)))]]) (Wc := [(w_X1 ad (b1 + 6) cs (S1_4h 1))]) (Wc' := [(w_X1 ad (b1 + 6) cs (S1_4h 1))]) (is := [2]) (js := [0, 1, 3, 4, 5]) ⟨hx, hb, hml, hown, hts⟩ (k_X1_isReady l dC dI cs ad (b1 + 6) H.size (S1_4h 1) v2_4 (S1_4h 4 1 0) q24 gq24) (cwV 2 hts gX5_dockReadyBicycles_X1_isReady rfl rfl rfl cd_X1_isReady ⟨Nat.le_of_ble_eq_true rfl, Nat.le_of_ble_eq_true rfl⟩) hK hP hD hS hA ⟨rfl, rfl, rfl, rfl, rfl, rfl⟩ (jn_nd (is := [2]) hD rfl rfl) 6 0 rfl rfl rfl rfl rfl hl.1 (Nat.le_of_ble_eq_true rfl) dX5_dockReadyBicycles_24 (fun H24 locs24 hP' hD' hS' => ?_)
        replace hS := hS'
        replace hP : va_P (dC, dI) vwCl (fl [(w_X5 ad (b1) cs S1_4h)]) H24 := hP'
        replace hD : va_D A (fl [(w_X5 ad (b1) cs S1_4h)]) := hD'
        clear hP' hD' hS'
        refine lv_if_eq (tgt := 60) hx hb dX5_dockReadyBicycles_27 (by decide) (fun c27 => ?_) (fun c27 => ?_)
        · replace hR := it_t hR c27
          exact hB60 S1_4h v1_4 v2_4 H24 _ ls hR hP hD hS (lv_sub hl [0, 1, 2] rfl)
        · replace hR := it_f hR c27
          refine lv_aload_n hx hb dX5_dockReadyBicycles_30 rfl (lv_at hl 0 rfl) ?_
          refine va_get (D := (dC, dI)) (ci := 4) (v := .ref (ad (b1 + 6))) (C := RX5) (T := TX5) (N := 6) hx hb hts hinX5 hown hK hP 0 rfl rfl 1 (by decide) hF21 (fun _ h9 => h9) rfl dX5_dockReadyBicycles_31 ?_
          refine lv_iload_n hx hb dX5_dockReadyBicycles_34 rfl (lv_at hl 2 rfl) ?_
          replace hR := bd_e hR
          obtain ⟨q35, gq35, hR⟩ := hR
          replace hP : va_P (dC, dI) vwCl (fl [[((ad b1), .inr (4, [.ref (ad (b1 + 1)), .ref (ad (b1 + 6)), .ref (ad (b1 + 13)), .ref (ad (b1 + 23)), .ref (ad (b1 + 27)), .int (S1_4h 4 1 0)]))], (w_X6 ad (b1 + 1) cs (S1_4h 0)), (w_X1 ad (b1 + 6) cs (S1_4h 1)), (w_X4 ad (b1 + 13) cs (S1_4h 2)), (w_X8 ad (b1 + 23) cs (S1_4h 3)), [((ad (b1 + 27)), .inl (cs 0, 3, .inl (S1_4h 4 0)))]]) H24 := hP
          replace hD : va_D A (fl [[((ad b1), .inr (4, [.ref (ad (b1 + 1)), .ref (ad (b1 + 6)), .ref (ad (b1 + 13)), .ref (ad (b1 + 23)), .ref (ad (b1 + 27)), .int (S1_4h 4 1 0)]))], (w_X6 ad (b1 + 1) cs (S1_4h 0)), (w_X1 ad (b1 + 6) cs (S1_4h 1)), (w_X4 ad (b1 + 13) cs (S1_4h 2)), (w_X8 ad (b1 + 23) cs (S1_4h 3)), [((ad (b1 + 27)), .inl (cs 0, 3, .inl (S1_4h 4 0)))]]) := hD
          refine cl_Vv (As := [.int v2_4]) (rest := []) (L := [[((ad b1), .inr (4, [.ref (ad (b1 + 1)), .ref (ad (b1 + 6)), .ref (ad (b1 + 13)), .ref (ad (b1 + 23)), .ref (ad (b1 + 27)), .int (S1_4h 4 1 0)]))], (w_X6 ad (b1 + 1) cs (S1_4h 0)), (w_X1 ad (b1 + 6) cs (S1_4h 1)), (w_X4 ad (b1 + 13) cs (S1_4h 2)), (w_X8 ad (b1 + 23) cs (S1_4h 3)), [((ad (b1 + 27)), .inl (cs 0, 3, .inl (S1_4h 4 0)))]]) (L' := [[((ad b1), .inr (4, [.ref (ad (b1 + 1)), .ref (ad (b1 + 6)), .ref (ad (b1 + 13)), .ref (ad (b1 + 23)), .ref (ad (b1 + 27)), .int ((sU S1_4h 1 q35) 4 1 0)]))], (w_X6 ad (b1 + 1) cs ((sU S1_4h 1 q35) 0)), (w_X1 ad (b1 + 6) cs ((sU S1_4h 1 q35) 1)), (w_X4 ad (b1 + 13) cs ((sU S1_4h 1 q35) 2)), (w_X8 ad (b1 + 23) cs ((sU S1_4h 1 q35) 3)), [((ad (b1 + 27)), .inl (cs 0, 3, .inl ((sU S1_4h 1 q35) 4 0)))]]) (Wc := [(w_X1 ad (b1 + 6) cs (S1_4h 1))]) (Wc' := [(w_X1 ad (b1 + 6) cs q35)]) (is := [2]) (js := [0, 1, 3, 4, 5]) ⟨hx, hb, hml, hown, hts⟩ (k_X1_renew l dC dI cs ad (b1 + 6) H24.size (S1_4h 1) v2_4 q35 gq35) (cwV 1 hts gX5_dockReadyBicycles_X1_renew rfl rfl rfl cd_X1_renew ⟨Nat.le_of_ble_eq_true rfl, Nat.le_of_ble_eq_true rfl⟩) hK hP hD hS hA ⟨rfl, rfl, rfl, rfl, rfl, rfl⟩ (jn_nd (is := [2]) hD rfl rfl) 6 0 rfl rfl rfl rfl rfl hl.1 (Nat.le_of_ble_eq_true rfl) dX5_dockReadyBicycles_35 (fun H35 locs35 hP' hD' hS' => ?_)
          replace hS := hS'
          have hP' : va_P (dC, dI) vwCl (fl [(w_X5 ad (b1) cs (sU S1_4h 1 q35))]) H35 := hP'
          have hD' : va_D A (fl [(w_X5 ad (b1) cs (sU S1_4h 1 q35))]) := hD'
          replace hR := bn_e hR
          obtain ⟨S1_35, eS1_35, hR⟩ := hR
          replace hP : va_P (dC, dI) vwCl (fl [(w_X5 ad (b1) cs S1_35)]) H35 := by rw [eS1_35]; exact hP'
          replace hD : va_D A (fl [(w_X5 ad (b1) cs S1_35)]) := by rw [eS1_35]; exact hD'
          clear hP' hD' hS'
          refine lv_aload_n hx hb dX5_dockReadyBicycles_38 rfl (lv_at hl 0 rfl) ?_
          replace hR := bd_e hR
          obtain ⟨q39, gq39, hR⟩ := hR
          refine cl_Vi (As := []) (rest := []) (L := [(w_X5 ad (b1) cs S1_35)]) (L' := [(w_X5 ad (b1) cs S1_35)]) (Wc := [(w_X5 ad (b1) cs S1_35)]) (Wc' := [(w_X5 ad (b1) cs S1_35)]) (is := [0]) (js := []) ⟨hx, hb, hml, hown, hts⟩ (k_X5_firstWithFreeDock l dC dI cs ad (b1) H35.size S1_35 q39 gq39) (cwV 0 hts gX5_dockReadyBicycles_X5_firstWithFreeDock rfl rfl rfl cd_X5_firstWithFreeDock ⟨Nat.le_of_ble_eq_true rfl, Nat.le_of_ble_eq_true rfl⟩) hK hP hD hS hA ⟨rfl, rfl, rfl, rfl, rfl, rfl⟩ (jn_nd (is := [0]) hD rfl rfl) 0 4 rfl rfl rfl rfl rfl hl.1 (Nat.le_of_ble_eq_true rfl) dX5_dockReadyBicycles_39 (fun H39 locs39 hP' hD' hS' => ?_)
          replace hS := hS'
          replace hP : va_P (dC, dI) vwCl (fl [(w_X5 ad (b1) cs S1_35)]) H39 := hP'
          replace hD : va_D A (fl [(w_X5 ad (b1) cs S1_35)]) := hD'
          clear hP' hD' hS'
          refine lv_istore_n (lv' := [(3, .int q39), (0, .ref (ad b1)), (1, .int v1_4), (2, .int v2_4)]) hx hb dX5_dockReadyBicycles_42 rfl hl (Nat.le_of_ble_eq_true rfl) rfl (fun ls hl => ?_)
          refine lv_iload_n hx hb dX5_dockReadyBicycles_43 rfl (lv_at hl 0 rfl) ?_
          refine lv_if_lt (tgt := 60) hx hb dX5_dockReadyBicycles_44 (by decide) (fun c44 => ?_) (fun c44 => ?_)
          · replace hR := it_t hR c44
            exact hB60 S1_35 v1_4 v2_4 H39 _ ls hR hP hD hS (lv_sub hl [1, 2, 3] rfl)
          · replace hR := it_f hR c44
            refine lv_aload_n hx hb dX5_dockReadyBicycles_47 rfl (lv_at hl 1 rfl) ?_
            refine va_get (D := (dC, dI)) (ci := 4) (v := .ref (ad (b1 + 6))) (C := RX5) (T := TX5) (N := 6) hx hb hts hinX5 hown hK hP 0 rfl rfl 1 (by decide) hF21 (fun _ h9 => h9) rfl dX5_dockReadyBicycles_48 ?_
            refine lv_iload_n hx hb dX5_dockReadyBicycles_51 rfl (lv_at hl 3 rfl) ?_
            refine lv_iconst (v := 0) hx hb dX5_dockReadyBicycles_52 ic_0 ?_
            refine lv_iload_n hx hb dX5_dockReadyBicycles_53 rfl (lv_at hl 0 rfl) ?_
            replace hR := bd_e hR
            obtain ⟨q54, gq54, hR⟩ := hR
            replace hP : va_P (dC, dI) vwCl (fl [[((ad b1), .inr (4, [.ref (ad (b1 + 1)), .ref (ad (b1 + 6)), .ref (ad (b1 + 13)), .ref (ad (b1 + 23)), .ref (ad (b1 + 27)), .int (S1_35 4 1 0)]))], (w_X6 ad (b1 + 1) cs (S1_35 0)), (w_X1 ad (b1 + 6) cs (S1_35 1)), (w_X4 ad (b1 + 13) cs (S1_35 2)), (w_X8 ad (b1 + 23) cs (S1_35 3)), [((ad (b1 + 27)), .inl (cs 0, 3, .inl (S1_35 4 0)))]]) H39 := hP
            replace hD : va_D A (fl [[((ad b1), .inr (4, [.ref (ad (b1 + 1)), .ref (ad (b1 + 6)), .ref (ad (b1 + 13)), .ref (ad (b1 + 23)), .ref (ad (b1 + 27)), .int (S1_35 4 1 0)]))], (w_X6 ad (b1 + 1) cs (S1_35 0)), (w_X1 ad (b1 + 6) cs (S1_35 1)), (w_X4 ad (b1 + 13) cs (S1_35 2)), (w_X8 ad (b1 + 23) cs (S1_35 3)), [((ad (b1 + 27)), .inl (cs 0, 3, .inl (S1_35 4 0)))]]) := hD
            refine cl_Vv (As := [.int v2_4, .int (0 : Int32), .int q39]) (rest := []) (L := [[((ad b1), .inr (4, [.ref (ad (b1 + 1)), .ref (ad (b1 + 6)), .ref (ad (b1 + 13)), .ref (ad (b1 + 23)), .ref (ad (b1 + 27)), .int (S1_35 4 1 0)]))], (w_X6 ad (b1 + 1) cs (S1_35 0)), (w_X1 ad (b1 + 6) cs (S1_35 1)), (w_X4 ad (b1 + 13) cs (S1_35 2)), (w_X8 ad (b1 + 23) cs (S1_35 3)), [((ad (b1 + 27)), .inl (cs 0, 3, .inl (S1_35 4 0)))]]) (L' := [[((ad b1), .inr (4, [.ref (ad (b1 + 1)), .ref (ad (b1 + 6)), .ref (ad (b1 + 13)), .ref (ad (b1 + 23)), .ref (ad (b1 + 27)), .int ((sU S1_35 1 q54) 4 1 0)]))], (w_X6 ad (b1 + 1) cs ((sU S1_35 1 q54) 0)), (w_X1 ad (b1 + 6) cs ((sU S1_35 1 q54) 1)), (w_X4 ad (b1 + 13) cs ((sU S1_35 1 q54) 2)), (w_X8 ad (b1 + 23) cs ((sU S1_35 1 q54) 3)), [((ad (b1 + 27)), .inl (cs 0, 3, .inl ((sU S1_35 1 q54) 4 0)))]]) (Wc := [(w_X1 ad (b1 + 6) cs (S1_35 1))]) (Wc' := [(w_X1 ad (b1 + 6) cs q54)]) (is := [2]) (js := [0, 1, 3, 4, 5]) ⟨hx, hb, hml, hown, hts⟩ (k_X1_bring l dC dI cs ad (b1 + 6) H39.size (S1_35 1) v2_4 (0 : Int32) q39 q54 gq54) (cwV 3 hts gX5_dockReadyBicycles_X1_bring rfl rfl rfl cd_X1_bring ⟨Nat.le_of_ble_eq_true rfl, Nat.le_of_ble_eq_true rfl⟩) hK hP hD hS hA ⟨rfl, rfl, rfl, rfl, rfl, rfl⟩ (jn_nd (is := [2]) hD rfl rfl) 6 0 rfl rfl rfl rfl rfl hl.1 (Nat.le_of_ble_eq_true rfl) dX5_dockReadyBicycles_54 (fun H54 locs54 hP' hD' hS' => ?_)
            replace hS := hS'
            have hP' : va_P (dC, dI) vwCl (fl [(w_X5 ad (b1) cs (sU S1_35 1 q54))]) H54 := hP'
            have hD' : va_D A (fl [(w_X5 ad (b1) cs (sU S1_35 1 q54))]) := hD'
            replace hR := bn_e hR
            obtain ⟨S1_54, eS1_54, hR⟩ := hR
            replace hP : va_P (dC, dI) vwCl (fl [(w_X5 ad (b1) cs S1_54)]) H54 := by rw [eS1_54]; exact hP'
            replace hD : va_D A (fl [(w_X5 ad (b1) cs S1_54)]) := by rw [eS1_54]; exact hD'
            clear hP' hD' hS'
            refine lv_iinc (v := (v1_4 + 1)) (lv' := [(1, .int (v1_4 + 1)), (3, .int q39), (0, .ref (ad b1)), (2, .int v2_4)]) hx hb dX5_dockReadyBicycles_57 hl (k := 2) rfl rfl (Nat.le_of_ble_eq_true rfl) rfl (fun ls hl => ?_)
            exact hB60 S1_54 (v1_4 + 1) v2_4 H54 _ ls hR hP hD hS (lv_sub hl [2, 0, 3] rfl)
  refine lv_iconst (v := 0) hx hb dX5_dockReadyBicycles_0 ic_0 ?_
  refine lv_istore_n (lv' := [(1, .int (0 : Int32)), (0, .ref (ad b1))]) hx hb dX5_dockReadyBicycles_1 rfl hl (Nat.le_of_ble_eq_true rfl) rfl (fun ls hl => ?_)
  refine lv_iconst (v := 0) hx hb dX5_dockReadyBicycles_2 ic_0 ?_
  refine lv_istore_n (lv' := [(2, .int (0 : Int32)), (1, .int (0 : Int32)), (0, .ref (ad b1))]) hx hb dX5_dockReadyBicycles_3 rfl hl (Nat.le_of_ble_eq_true rfl) rfl (fun ls hl => ?_)
  exact hB4 fuel S1 (0 : Int32) (0 : Int32) s.heap _ ls hR hP hD hS (lv_sub hl [2, 1, 0] rfl)
set_option maxHeartbeats 8000000 in
set_option maxRecDepth 100000 in
theorem k_X5_letGoBy (l : Launch) (dC : Nat → ClassId) (dI : Nat → Nat → Nat) (cs : Nat → ClassId) (ad : Nat → Nat) (b1 : Nat) (sz : Nat) (S1 : T3) (p1 : Int32) (r : Int32) (u1 : T3) (hR : fX5_letGoBy S1 p1 = some (r, u1)) : Met l yX5_letGoBy wsX5_letGoBy ({ frames := 3, cells := 0, slots := 0, locals := 68 } : Room) (va_Pc [.ref (ad b1), .int p1] (pW dC dI (tyL cs) (fl [(w_X5 ad (b1) cs S1)]) sz)) (QI dC dI (tyL cs) (va_A (fl [(w_X5 ad (b1) cs S1)]) sz) (fl [(w_X5 ad (b1) cs u1)]) r) 0 0 (va_A (fl [(w_X5 ad (b1) cs S1)]) sz) := by
  refine mt_of (own := RX5) (cc := cX5_letGoBy) (maxL := 4) (ret := (some .int)) (Qc := fun A => QI dC dI (tyL cs) A (fl [(w_X5 ad (b1) cs u1)]) r) rfl (by decide) rfl (Nat.le_of_ble_eq_true rfl) (fun p e s m below meth c A ls hsz hx hb hr hts hown hlocks hml hA hK hP hD hS hl => ?_)
  subst hsz
  have hl : lv_has ls 4 [(0, .ref (ad b1)), (1, .int p1)] := hl
  have hF62 := hts (.fieldLink RX5 62 "DockedBikes$Road" "time" "I") (List.mem_of_getElem? (i := 1) rfl)
  have hinX5 : ∀ w ∈ wsX50, w ∈ wsX5_letGoBy := by decide +kernel
  have hB33 : ∀ (n33 : Nat), ∀ (S1_33h : T3) (v2_33 : Int32) (v3_33 : Int32) (H : Heap) (locs : List Loc) (ls : Array Slot), fX5_letGoBy_33 p1 n33 S1_33h v2_33 v3_33 = some (r, u1) → va_P (dC, dI) vwCl (fl [(w_X5 ad (b1) cs S1_33h)]) H → va_D A (fl [(w_X5 ad (b1) cs S1_33h)]) → va_S A s.heap H locs → lv_has ls 4 [(0, .ref (ad b1)), (1, .int p1), (2, .int v2_33), (3, .int v3_33)] → W p l e (headSpec wsX5_letGoBy ({ frames := 3, cells := 0, slots := 0, locals := 68 } : Room)).room s m ([.ref (ad b1), .int p1] : List Value).toArray below meth c H locs 0 0 (MQ below (QI dC dI (tyL cs) A (fl [(w_X5 ad (b1) cs u1)]) r) ([.ref (ad b1), .int p1] : List Value).toArray s 0 0 A) (F0 m 33 ls []) := by
    intro n33
    induction n33 with
    | zero =>
      intro S1_33h v2_33 v3_33 H locs ls hR hP hD hS hl
      exact nn_e hR
    | succ n33 hI33 =>
      intro S1_33h v2_33 v3_33 H locs ls hR hP hD hS hl
      rw [fX5_letGoBy_33] at hR
      refine lv_iload_n hx hb dX5_letGoBy_33 rfl (lv_at hl 3 rfl) ?_
      refine lv_iload_n hx hb dX5_letGoBy_34 rfl (lv_at hl 1 rfl) ?_
      refine lv_icmp_ge (tgt := 61) hx hb dX5_letGoBy_35 (by decide) (fun c35 => ?_) (fun c35 => ?_)
      · replace hR := it_t hR c35
        refine lv_iload_n hx hb dX5_letGoBy_61 rfl (lv_at hl 2 rfl) ?_
        replace hR := Option.some.inj hR
        obtain ⟨e9, hR⟩ := Prod.mk.inj hR
        have eu1 := hR
        replace hP : va_P (dC, dI) vwCl (fl [(w_X5 ad (b1) cs u1)]) H := by rw [← eu1]; exact hP
        replace hD : va_D A (fl [(w_X5 ad (b1) cs u1)]) := by rw [← eu1]; exact hD
        exact W.iret hx hb hr (fun t ht hW => ⟨⟨_, (), rfl, e9, by rw [ht]; exact hP, va_K.moved hW.alike hK, hD⟩, hS.F ht⟩) hS.2.2 dX5_letGoBy_62
      · replace hR := it_f hR c35
        refine lv_aload_n hx hb dX5_letGoBy_38 rfl (lv_at hl 0 rfl) ?_
        refine lv_dup hx hb dX5_letGoBy_39 rfl ?_
        refine va_get (D := (dC, dI)) (ci := 4) (v := .int (S1_33h 4 1 0)) (C := RX5) (T := TX5) (N := 6) hx hb hts hinX5 hown hK hP 0 rfl rfl 5 (by decide) hF62 (fun _ h9 => h9) rfl dX5_letGoBy_40 ?_
        refine lv_iconst (v := 1) hx hb dX5_letGoBy_43 ic_1 ?_
        refine lv_iadd hx hb dX5_letGoBy_44 ?_
        refine va_put (D := (dC, dI)) (ci := 4) (v := .int ((S1_33h 4 1 0) + 1)) (ty := .int) (C := RX5) (T := TX5) (N := 6) hx hb hts hinX5 tyX5 tyX5_ok nmX5 hown hK hP hD hS 0 rfl rfl 5 (by decide) hF62 (fun _ h9 => h9) rfl (by decide +kernel) rfl rfl (Nat.le_of_ble_eq_true rfl) dX5_letGoBy_45 (fun H45 locs45 hP' hD' hS' => ?_)
        replace hS := hS'
        have hP' : va_P (dC, dI) vwCl (fl [(w_X5 ad (b1) cs (sU S1_33h 4 (sU (S1_33h 4) 1 (sU ((S1_33h 4) 1) 0 ((S1_33h 4 1 0) + 1)))))]) H45 := hP'
        have hD' : va_D A (fl [(w_X5 ad (b1) cs (sU S1_33h 4 (sU (S1_33h 4) 1 (sU ((S1_33h 4) 1) 0 ((S1_33h 4 1 0) + 1)))))]) := hD'
        replace hR := bn_e hR
        obtain ⟨S1_45, eS1_45, hR⟩ := hR
        replace hP : va_P (dC, dI) vwCl (fl [(w_X5 ad (b1) cs S1_45)]) H45 := by rw [eS1_45]; exact hP'
        replace hD : va_D A (fl [(w_X5 ad (b1) cs S1_45)]) := by rw [eS1_45]; exact hD'
        clear hP' hD' hS'
        refine lv_iload_n hx hb dX5_letGoBy_48 rfl (lv_at hl 2 rfl) ?_
        refine lv_aload_n hx hb dX5_letGoBy_49 rfl (lv_at hl 0 rfl) ?_
        replace hR := bd_e hR
        obtain ⟨q50, gq50, hR⟩ := hR
        refine cl_Vi (As := []) (rest := [.int v2_33]) (L := [(w_X5 ad (b1) cs S1_45)]) (L' := [(w_X5 ad (b1) cs q50.2)]) (Wc := [(w_X5 ad (b1) cs S1_45)]) (Wc' := [(w_X5 ad (b1) cs q50.2)]) (is := [0]) (js := []) ⟨hx, hb, hml, hown, hts⟩ (k_X5_dockReadyBicycles l dC dI cs ad (b1) H45.size S1_45 q50.1 q50.2 gq50) (cwV 0 hts gX5_letGoBy_X5_dockReadyBicycles rfl rfl rfl cd_X5_dockReadyBicycles ⟨Nat.le_of_ble_eq_true rfl, Nat.le_of_ble_eq_true rfl⟩) hK hP hD hS hA ⟨rfl, rfl, rfl, rfl, rfl, rfl⟩ (jn_nd (is := [0]) hD rfl rfl) 0 4 rfl rfl rfl rfl rfl hl.1 (Nat.le_of_ble_eq_true rfl) dX5_letGoBy_50 (fun H50 locs50 hP' hD' hS' => ?_)
        replace hS := hS'
        replace hP : va_P (dC, dI) vwCl (fl [(w_X5 ad (b1) cs q50.2)]) H50 := hP'
        replace hD : va_D A (fl [(w_X5 ad (b1) cs q50.2)]) := hD'
        clear hP' hD' hS'
        refine lv_iadd hx hb dX5_letGoBy_53 ?_
        refine lv_istore_n (lv' := [(2, .int (v2_33 + q50.1)), (0, .ref (ad b1)), (1, .int p1), (3, .int v3_33)]) hx hb dX5_letGoBy_54 rfl hl (Nat.le_of_ble_eq_true rfl) rfl (fun ls hl => ?_)
        refine lv_iinc (v := (v3_33 + 1)) (lv' := [(3, .int (v3_33 + 1)), (2, .int (v2_33 + q50.1)), (0, .ref (ad b1)), (1, .int p1)]) hx hb dX5_letGoBy_55 hl (k := 3) rfl rfl (Nat.le_of_ble_eq_true rfl) rfl (fun ls hl => ?_)
        refine lv_goto (tgt := 33) hx hb dX5_letGoBy_58 (by decide) ?_
        exact hI33 q50.2 (v2_33 + q50.1) (v3_33 + 1) H50 _ ls hR hP hD hS (lv_sub hl [2, 3, 1, 0] rfl)
  refine lv_iload_n hx hb dX5_letGoBy_0 rfl (lv_at hl 1 rfl) ?_
  refine lv_iconst (v := 1) hx hb dX5_letGoBy_1 ic_1 ?_
  refine lv_icmp_lt (tgt := 12) hx hb dX5_letGoBy_2 (by decide) (fun c2 => ?_) (fun c2 => ?_)
  · replace hR := it_t hR c2
    refine lv_iconst (v := (-1)) hx hb dX5_letGoBy_12 ic_m1 ?_
    replace hR := Option.some.inj hR
    obtain ⟨e9, hR⟩ := Prod.mk.inj hR
    have eu1 := hR
    replace hP : va_P (dC, dI) vwCl (fl [(w_X5 ad (b1) cs u1)]) s.heap := by rw [← eu1]; exact hP
    replace hD : va_D A (fl [(w_X5 ad (b1) cs u1)]) := by rw [← eu1]; exact hD
    exact W.iret hx hb hr (fun t ht hW => ⟨⟨_, (), rfl, e9, by rw [ht]; exact hP, va_K.moved hW.alike hK, hD⟩, hS.F ht⟩) hS.2.2 dX5_letGoBy_13
  · replace hR := it_f hR c2
    refine lv_iload_n hx hb dX5_letGoBy_5 rfl (lv_at hl 1 rfl) ?_
    refine lv_sipush (v := 200) hx hb dX5_letGoBy_6 sp_200 ?_
    refine lv_icmp_le (tgt := 14) hx hb dX5_letGoBy_9 (by decide) (fun c9 => ?_) (fun c9 => ?_)
    · replace hR := it_t hR c9
      refine lv_aload_n hx hb dX5_letGoBy_14 rfl (lv_at hl 0 rfl) ?_
      refine va_get (D := (dC, dI)) (ci := 4) (v := .int (S1 4 1 0)) (C := RX5) (T := TX5) (N := 6) hx hb hts hinX5 hown hK hP 0 rfl rfl 5 (by decide) hF62 (fun _ h9 => h9) rfl dX5_letGoBy_15 ?_
      refine lv_iload_n hx hb dX5_letGoBy_18 rfl (lv_at hl 1 rfl) ?_
      refine lv_iadd hx hb dX5_letGoBy_19 ?_
      refine lv_sipush (v := 9000) hx hb dX5_letGoBy_20 sp_9000 ?_
      refine lv_icmp_le (tgt := 29) hx hb dX5_letGoBy_23 (by decide) (fun c23 => ?_) (fun c23 => ?_)
      · replace hR := it_t hR c23
        refine lv_iconst (v := 0) hx hb dX5_letGoBy_29 ic_0 ?_
        refine lv_istore_n (lv' := [(2, .int (0 : Int32)), (0, .ref (ad b1)), (1, .int p1)]) hx hb dX5_letGoBy_30 rfl hl (Nat.le_of_ble_eq_true rfl) rfl (fun ls hl => ?_)
        refine lv_iconst (v := 0) hx hb dX5_letGoBy_31 ic_0 ?_
        refine lv_istore_n (lv' := [(3, .int (0 : Int32)), (2, .int (0 : Int32)), (0, .ref (ad b1)), (1, .int p1)]) hx hb dX5_letGoBy_32 rfl hl (Nat.le_of_ble_eq_true rfl) rfl (fun ls hl => ?_)
        exact hB33 fuel S1 (0 : Int32) (0 : Int32) s.heap _ ls hR hP hD hS (lv_sub hl [2, 3, 1, 0] rfl)
      · replace hR := it_f hR c23
        refine lv_bipush (v := (-3)) hx hb dX5_letGoBy_26 bp_m3 ?_
        replace hR := Option.some.inj hR
        obtain ⟨e9, hR⟩ := Prod.mk.inj hR
        have eu1 := hR
        replace hP : va_P (dC, dI) vwCl (fl [(w_X5 ad (b1) cs u1)]) s.heap := by rw [← eu1]; exact hP
        replace hD : va_D A (fl [(w_X5 ad (b1) cs u1)]) := by rw [← eu1]; exact hD
        exact W.iret hx hb hr (fun t ht hW => ⟨⟨_, (), rfl, e9, by rw [ht]; exact hP, va_K.moved hW.alike hK, hD⟩, hS.F ht⟩) hS.2.2 dX5_letGoBy_28
    · replace hR := it_f hR c9
      refine lv_iconst (v := (-1)) hx hb dX5_letGoBy_12 ic_m1 ?_
      replace hR := Option.some.inj hR
      obtain ⟨e9, hR⟩ := Prod.mk.inj hR
      have eu1 := hR
      replace hP : va_P (dC, dI) vwCl (fl [(w_X5 ad (b1) cs u1)]) s.heap := by rw [← eu1]; exact hP
      replace hD : va_D A (fl [(w_X5 ad (b1) cs u1)]) := by rw [← eu1]; exact hD
      exact W.iret hx hb hr (fun t ht hW => ⟨⟨_, (), rfl, e9, by rw [ht]; exact hP, va_K.moved hW.alike hK, hD⟩, hS.F ht⟩) hS.2.2 dX5_letGoBy_13
set_option maxHeartbeats 8000000 in
set_option maxRecDepth 100000 in
theorem k_X5_isSetting (l : Launch) (dC : Nat → ClassId) (dI : Nat → Nat → Nat) (cs : Nat → ClassId) (ad : Nat → Nat) (b1 : Nat) (sz : Nat) (S1 : T3) (p1 : Int32) (r : Int32) (hR : fX5_isSetting S1 p1 = some r) : Met l yX5_isSetting wsX5_isSetting ({ frames := 0, cells := 0, slots := 0, locals := 0 } : Room) (va_Pc [.ref (ad b1), .int p1] (pW dC dI (tyL cs) (fl [(w_X5 ad (b1) cs S1)]) sz)) (QI dC dI (tyL cs) (va_A (fl [(w_X5 ad (b1) cs S1)]) sz) (fl [(w_X5 ad (b1) cs S1)]) r) 0 0 (va_A (fl [(w_X5 ad (b1) cs S1)]) sz) := by
  refine mt_of (own := RX5) (cc := cX5_isSetting) (maxL := 2) (ret := (some .boolean)) (Qc := fun A => QI dC dI (tyL cs) A (fl [(w_X5 ad (b1) cs S1)]) r) rfl (by decide) rfl (Nat.le_of_ble_eq_true rfl) (fun p e s m below meth c A ls hsz hx hb hr hts hown hlocks hml hA hK hP hD hS hl => ?_)
  subst hsz
  have hl : lv_has ls 2 [(0, .ref (ad b1)), (1, .int p1)] := hl
  refine lv_iload_n hx hb dX5_isSetting_0 rfl (lv_at hl 1 rfl) ?_
  refine lv_if_lt (tgt := 13) hx hb dX5_isSetting_1 (by decide) (fun c1 => ?_) (fun c1 => ?_)
  · replace hR := it_t hR c1
    refine lv_iconst (v := 0) hx hb dX5_isSetting_13 ic_0 ?_
    replace hR := Option.some.inj hR
    have e9 := hR
    exact W.zret (ty := .boolean) hx hb hr (by decide) (fun t ht hW => ⟨⟨_, (), rfl, e9, by rw [ht]; exact hP, va_K.moved hW.alike hK, hD⟩, hS.F ht⟩) hS.2.2 dX5_isSetting_14
  · replace hR := it_f hR c1
    refine lv_iload_n hx hb dX5_isSetting_4 rfl (lv_at hl 1 rfl) ?_
    refine lv_iconst (v := 3) hx hb dX5_isSetting_5 ic_3 ?_
    refine lv_icmp_ge (tgt := 13) hx hb dX5_isSetting_6 (by decide) (fun c6 => ?_) (fun c6 => ?_)
    · replace hR := it_t hR c6
      refine lv_iconst (v := 0) hx hb dX5_isSetting_13 ic_0 ?_
      replace hR := Option.some.inj hR
      have e9 := hR
      exact W.zret (ty := .boolean) hx hb hr (by decide) (fun t ht hW => ⟨⟨_, (), rfl, e9, by rw [ht]; exact hP, va_K.moved hW.alike hK, hD⟩, hS.F ht⟩) hS.2.2 dX5_isSetting_14
    · replace hR := it_f hR c6
      refine lv_iconst (v := 1) hx hb dX5_isSetting_9 ic_1 ?_
      refine lv_goto (tgt := 14) hx hb dX5_isSetting_10 (by decide) ?_
      replace hR := Option.some.inj hR
      have e9 := hR
      exact W.zret (ty := .boolean) hx hb hr (by decide) (fun t ht hW => ⟨⟨_, (), rfl, e9, by rw [ht]; exact hP, va_K.moved hW.alike hK, hD⟩, hS.F ht⟩) hS.2.2 dX5_isSetting_14
set_option maxHeartbeats 8000000 in
set_option maxRecDepth 100000 in
theorem k_X5_changeSetting (l : Launch) (dC : Nat → ClassId) (dI : Nat → Nat → Nat) (cs : Nat → ClassId) (ad : Nat → Nat) (b1 : Nat) (sz : Nat) (S1 : T3) (p1 : Int32) (p2 : Int32) (r : Int32) (u1 : T3) (hR : fX5_changeSetting S1 p1 p2 = some (r, u1)) : Met l yX5_changeSetting wsX5_changeSetting ({ frames := 1, cells := 0, slots := 0, locals := 21 } : Room) (va_Pc [.ref (ad b1), .int p1, .int p2] (pW dC dI (tyL cs) (fl [(w_X5 ad (b1) cs S1)]) sz)) (QI dC dI (tyL cs) (va_A (fl [(w_X5 ad (b1) cs S1)]) sz) (fl [(w_X5 ad (b1) cs u1)]) r) 0 0 (va_A (fl [(w_X5 ad (b1) cs S1)]) sz) := by
  refine mt_of (own := RX5) (cc := cX5_changeSetting) (maxL := 6) (ret := (some .int)) (Qc := fun A => QI dC dI (tyL cs) A (fl [(w_X5 ad (b1) cs u1)]) r) rfl (by decide) rfl (Nat.le_of_ble_eq_true rfl) (fun p e s m below meth c A ls hsz hx hb hr hts hown hlocks hml hA hK hP hD hS hl => ?_)
  subst hsz
  have hl : lv_has ls 6 [(0, .ref (ad b1)), (1, .int p1), (2, .int p2)] := hl
  have hF39 := hts (.fieldLink RX5 39 "DockedBikes$Road" "settings" "[I") (List.mem_of_getElem? (i := 1) rfl)
  have hinX5 : ∀ w ∈ wsX50, w ∈ wsX5_changeSetting := by decide +kernel
  have hB33 : ∀ (S1_33h : T3) (v3_33 : Int32) (t0_33 : Int32) (H : Heap) (locs : List Loc) (ls : Array Slot), fX5_changeSetting_33 p1 p2 S1_33h v3_33 t0_33 = some (r, u1) → va_P (dC, dI) vwCl (fl [(w_X5 ad (b1) cs S1_33h)]) H → va_D A (fl [(w_X5 ad (b1) cs S1_33h)]) → va_S A s.heap H locs → lv_has ls 6 [(0, .ref (ad b1)), (1, .int p1), (2, .int p2), (3, .int v3_33)] → W p l e (headSpec wsX5_changeSetting ({ frames := 1, cells := 0, slots := 0, locals := 21 } : Room)).room s m ([.ref (ad b1), .int p1, .int p2] : List Value).toArray below meth c H locs 0 0 (MQ below (QI dC dI (tyL cs) A (fl [(w_X5 ad (b1) cs u1)]) r) ([.ref (ad b1), .int p1, .int p2] : List Value).toArray s 0 0 A) (F0 m 33 ls [.int t0_33]) := by
    intro S1_33h v3_33 t0_33 H locs ls hR hP hD hS hl
    refine lv_istore (lv' := [(4, .int t0_33), (0, .ref (ad b1)), (1, .int p1), (2, .int p2), (3, .int v3_33)]) hx hb dX5_changeSetting_33 hl (Nat.le_of_ble_eq_true rfl) rfl (fun ls hl => ?_)
    refine lv_iload_n hx hb dX5_changeSetting_35 rfl (lv_at hl 3 rfl) ?_
    refine lv_iload_n hx hb dX5_changeSetting_36 rfl (lv_at hl 4 rfl) ?_
    refine lv_icmp_lt (tgt := 46) hx hb dX5_changeSetting_37 (by decide) (fun c37 => ?_) (fun c37 => ?_)
    · replace hR := it_t hR c37
      refine lv_iconst (v := (-1)) hx hb dX5_changeSetting_46 ic_m1 ?_
      replace hR := Option.some.inj hR
      obtain ⟨e9, hR⟩ := Prod.mk.inj hR
      have eu1 := hR
      replace hP : va_P (dC, dI) vwCl (fl [(w_X5 ad (b1) cs u1)]) H := by rw [← eu1]; exact hP
      replace hD : va_D A (fl [(w_X5 ad (b1) cs u1)]) := by rw [← eu1]; exact hD
      exact W.iret hx hb hr (fun t ht hW => ⟨⟨_, (), rfl, e9, by rw [ht]; exact hP, va_K.moved hW.alike hK, hD⟩, hS.F ht⟩) hS.2.2 dX5_changeSetting_47
    · replace hR := it_f hR c37
      refine lv_iload_n hx hb dX5_changeSetting_40 rfl (lv_at hl 3 rfl) ?_
      refine lv_iload hx hb dX5_changeSetting_41 (lv_at hl 0 rfl) ?_
      refine lv_icmp_le (tgt := 48) hx hb dX5_changeSetting_43 (by decide) (fun c43 => ?_) (fun c43 => ?_)
      · replace hR := it_t hR c43
        refine lv_aload_n hx hb dX5_changeSetting_48 rfl (lv_at hl 1 rfl) ?_
        refine va_get (D := (dC, dI)) (ci := 4) (v := .ref (ad (b1 + 27))) (C := RX5) (T := TX5) (N := 6) hx hb hts hinX5 hown hK hP 0 rfl rfl 4 (by decide) hF39 (fun _ h9 => h9) rfl dX5_changeSetting_49 ?_
        refine lv_iload_n hx hb dX5_changeSetting_52 rfl (lv_at hl 2 rfl) ?_
        replace hR := gi_e hR
        obtain ⟨i53, hR⟩ := hR
        refine va_iald hx hb hK hP 27 0 rfl rfl i53 dX5_changeSetting_53 ?_
        refine lv_istore (lv' := [(5, .int (S1_33h 4 0 p1.toNatClampNeg)), (4, .int t0_33), (0, .ref (ad b1)), (1, .int p1), (2, .int p2), (3, .int v3_33)]) hx hb dX5_changeSetting_54 hl (Nat.le_of_ble_eq_true rfl) rfl (fun ls hl => ?_)
        refine lv_aload_n hx hb dX5_changeSetting_56 rfl (lv_at hl 2 rfl) ?_
        refine va_get (D := (dC, dI)) (ci := 4) (v := .ref (ad (b1 + 27))) (C := RX5) (T := TX5) (N := 6) hx hb hts hinX5 hown hK hP 0 rfl rfl 4 (by decide) hF39 (fun _ h9 => h9) rfl dX5_changeSetting_57 ?_
        refine lv_iload_n hx hb dX5_changeSetting_60 rfl (lv_at hl 3 rfl) ?_
        refine lv_iload_n hx hb dX5_changeSetting_61 rfl (lv_at hl 4 rfl) ?_
        replace hR := gi_e hR
        obtain ⟨i62, hR⟩ := hR
        refine va_iast hx hb hK hP hD hS 27 0 rfl rfl i62 dX5_changeSetting_62 (fun H62 locs62 hP' hD' hS' => ?_)
        replace hS := hS'
        have hP' : va_P (dC, dI) vwCl (fl [(w_X5 ad (b1) cs (sU S1_33h 4 (sU (S1_33h 4) 0 (sU (S1_33h 4 0) p1.toNatClampNeg p2))))]) H62 := hP'
        have hD' : va_D A (fl [(w_X5 ad (b1) cs (sU S1_33h 4 (sU (S1_33h 4) 0 (sU (S1_33h 4 0) p1.toNatClampNeg p2))))]) := hD'
        replace hR := bn_e hR
        obtain ⟨S1_62, eS1_62, hR⟩ := hR
        replace hP : va_P (dC, dI) vwCl (fl [(w_X5 ad (b1) cs S1_62)]) H62 := by rw [eS1_62]; exact hP'
        replace hD : va_D A (fl [(w_X5 ad (b1) cs S1_62)]) := by rw [eS1_62]; exact hD'
        clear hP' hD' hS'
        refine lv_iload hx hb dX5_changeSetting_63 (lv_at hl 0 rfl) ?_
        replace hR := Option.some.inj hR
        obtain ⟨e9, hR⟩ := Prod.mk.inj hR
        have eu1 := hR
        replace hP : va_P (dC, dI) vwCl (fl [(w_X5 ad (b1) cs u1)]) H62 := by rw [← eu1]; exact hP
        replace hD : va_D A (fl [(w_X5 ad (b1) cs u1)]) := by rw [← eu1]; exact hD
        exact W.iret hx hb hr (fun t ht hW => ⟨⟨_, (), rfl, e9, by rw [ht]; exact hP, va_K.moved hW.alike hK, hD⟩, hS.F ht⟩) hS.2.2 dX5_changeSetting_65
      · replace hR := it_f hR c43
        refine lv_iconst (v := (-1)) hx hb dX5_changeSetting_46 ic_m1 ?_
        replace hR := Option.some.inj hR
        obtain ⟨e9, hR⟩ := Prod.mk.inj hR
        have eu1 := hR
        replace hP : va_P (dC, dI) vwCl (fl [(w_X5 ad (b1) cs u1)]) H := by rw [← eu1]; exact hP
        replace hD : va_D A (fl [(w_X5 ad (b1) cs u1)]) := by rw [← eu1]; exact hD
        exact W.iret hx hb hr (fun t ht hW => ⟨⟨_, (), rfl, e9, by rw [ht]; exact hP, va_K.moved hW.alike hK, hD⟩, hS.F ht⟩) hS.2.2 dX5_changeSetting_47
  have hB20 : ∀ (S1_20h : T3) (t0_20 : Int32) (H : Heap) (locs : List Loc) (ls : Array Slot), fX5_changeSetting_20 p1 p2 S1_20h t0_20 = some (r, u1) → va_P (dC, dI) vwCl (fl [(w_X5 ad (b1) cs S1_20h)]) H → va_D A (fl [(w_X5 ad (b1) cs S1_20h)]) → va_S A s.heap H locs → lv_has ls 6 [(0, .ref (ad b1)), (1, .int p1), (2, .int p2)] → W p l e (headSpec wsX5_changeSetting ({ frames := 1, cells := 0, slots := 0, locals := 21 } : Room)).room s m ([.ref (ad b1), .int p1, .int p2] : List Value).toArray below meth c H locs 0 0 (MQ below (QI dC dI (tyL cs) A (fl [(w_X5 ad (b1) cs u1)]) r) ([.ref (ad b1), .int p1, .int p2] : List Value).toArray s 0 0 A) (F0 m 20 ls [.int t0_20]) := by
    intro S1_20h t0_20 H locs ls hR hP hD hS hl
    refine lv_istore_n (lv' := [(3, .int t0_20), (0, .ref (ad b1)), (1, .int p1), (2, .int p2)]) hx hb dX5_changeSetting_20 rfl hl (Nat.le_of_ble_eq_true rfl) rfl (fun ls hl => ?_)
    refine lv_iload_n hx hb dX5_changeSetting_21 rfl (lv_at hl 2 rfl) ?_
    refine lv_if_ne (tgt := 30) hx hb dX5_changeSetting_22 (by decide) (fun c22 => ?_) (fun c22 => ?_)
    · replace hR := it_f hR c22
      refine lv_sipush (v := 999) hx hb dX5_changeSetting_30 sp_999 ?_
      exact hB33 S1_20h t0_20 (999 : Int32) H _ ls hR hP hD hS (lv_sub hl [1, 2, 3, 0] rfl)
    · replace hR := it_t hR c22
      refine lv_bipush (v := 99) hx hb dX5_changeSetting_25 bp_99 ?_
      refine lv_goto (tgt := 33) hx hb dX5_changeSetting_27 (by decide) ?_
      exact hB33 S1_20h t0_20 (99 : Int32) H _ ls hR hP hD hS (lv_sub hl [1, 2, 3, 0] rfl)
  refine lv_aload_n hx hb dX5_changeSetting_0 rfl (lv_at hl 0 rfl) ?_
  refine lv_iload_n hx hb dX5_changeSetting_1 rfl (lv_at hl 1 rfl) ?_
  replace hR := bd_e hR
  obtain ⟨q2, gq2, hR⟩ := hR
  refine cl_Vi (As := [.int p1]) (rest := []) (L := [(w_X5 ad (b1) cs S1)]) (L' := [(w_X5 ad (b1) cs S1)]) (Wc := [(w_X5 ad (b1) cs S1)]) (Wc' := [(w_X5 ad (b1) cs S1)]) (is := [0]) (js := []) ⟨hx, hb, hml, hown, hts⟩ (k_X5_isSetting l dC dI cs ad (b1) s.heap.size S1 p1 q2 gq2) (cwV 1 hts gX5_changeSetting_X5_isSetting rfl rfl rfl cd_X5_isSetting ⟨Nat.le_of_ble_eq_true rfl, Nat.le_of_ble_eq_true rfl⟩) hK hP hD hS hA ⟨rfl, rfl, rfl, rfl, rfl, rfl⟩ (jn_nd (is := [0]) hD rfl rfl) 0 4 rfl rfl rfl rfl rfl hl.1 (Nat.le_of_ble_eq_true rfl) dX5_changeSetting_2 (fun H2 locs2 hP' hD' hS' => ?_)
  replace hS := hS'
  replace hP : va_P (dC, dI) vwCl (fl [(w_X5 ad (b1) cs S1)]) H2 := hP'
  replace hD : va_D A (fl [(w_X5 ad (b1) cs S1)]) := hD'
  clear hP' hD' hS'
  refine lv_if_ne (tgt := 10) hx hb dX5_changeSetting_5 (by decide) (fun c5 => ?_) (fun c5 => ?_)
  · replace hR := it_f hR c5
    refine lv_iload_n hx hb dX5_changeSetting_10 rfl (lv_at hl 1 rfl) ?_
    refine lv_iconst (v := 1) hx hb dX5_changeSetting_11 ic_1 ?_
    refine lv_icmp_ne (tgt := 19) hx hb dX5_changeSetting_12 (by decide) (fun c12 => ?_) (fun c12 => ?_)
    · replace hR := it_f hR c12
      refine lv_iconst (v := 0) hx hb dX5_changeSetting_19 ic_0 ?_
      exact hB20 S1 (0 : Int32) H2 _ ls hR hP hD hS (lv_sub hl [0, 1, 2] rfl)
    · replace hR := it_t hR c12
      refine lv_iconst (v := 1) hx hb dX5_changeSetting_15 ic_1 ?_
      refine lv_goto (tgt := 20) hx hb dX5_changeSetting_16 (by decide) ?_
      exact hB20 S1 (1 : Int32) H2 _ ls hR hP hD hS (lv_sub hl [0, 1, 2] rfl)
  · replace hR := it_t hR c5
    refine lv_iconst (v := (-1)) hx hb dX5_changeSetting_8 ic_m1 ?_
    replace hR := Option.some.inj hR
    obtain ⟨e9, hR⟩ := Prod.mk.inj hR
    have eu1 := hR
    replace hP : va_P (dC, dI) vwCl (fl [(w_X5 ad (b1) cs u1)]) H2 := by rw [← eu1]; exact hP
    replace hD : va_D A (fl [(w_X5 ad (b1) cs u1)]) := by rw [← eu1]; exact hD
    exact W.iret hx hb hr (fun t ht hW => ⟨⟨_, (), rfl, e9, by rw [ht]; exact hP, va_K.moved hW.alike hK, hD⟩, hS.F ht⟩) hS.2.2 dX5_changeSetting_9
set_option maxHeartbeats 8000000 in
set_option maxRecDepth 100000 in
theorem k_X5_allUnevenness (l : Launch) (dC : Nat → ClassId) (dI : Nat → Nat → Nat) (cs : Nat → ClassId) (ad : Nat → Nat) (b1 : Nat) (sz : Nat) (S1 : T3) (r : Int32) (hR : fX5_allUnevenness S1 = some r) : Met l yX5_allUnevenness wsX5_allUnevenness ({ frames := 3, cells := 0, slots := 0, locals := 66 } : Room) (va_Pc [.ref (ad b1)] (pW dC dI (tyL cs) (fl [(w_X5 ad (b1) cs S1)]) sz)) (QI dC dI (tyL cs) (va_A (fl [(w_X5 ad (b1) cs S1)]) sz) (fl [(w_X5 ad (b1) cs S1)]) r) 0 0 (va_A (fl [(w_X5 ad (b1) cs S1)]) sz) := by
  refine mt_of (own := RX5) (cc := cX5_allUnevenness) (maxL := 3) (ret := (some .int)) (Qc := fun A => QI dC dI (tyL cs) A (fl [(w_X5 ad (b1) cs S1)]) r) rfl (by decide) rfl (Nat.le_of_ble_eq_true rfl) (fun p e s m below meth c A ls hsz hx hb hr hts hown hlocks hml hA hK hP hD hS hl => ?_)
  subst hsz
  have hl : lv_has ls 3 [(0, .ref (ad b1))] := hl
  have hF12 := hts (.fieldLink RX5 12 "DockedBikes$Road" "stations" "LDockedBikes$Stations;") (List.mem_of_getElem? (i := 1) rfl)
  have hF198 := hts (.fieldLink RX5 198 "DockedBikes$Stations" "size" "I") (List.mem_of_getElem? (i := 2) rfl)
  have hinX5 : ∀ w ∈ wsX50, w ∈ wsX5_allUnevenness := by decide +kernel
  have hinX6 : ∀ w ∈ wsX60, w ∈ wsX5_allUnevenness := by decide +kernel
  have hB4 : ∀ (n4 : Nat), ∀ (v1_4 : Int32) (v2_4 : Int32) (H : Heap) (locs : List Loc) (ls : Array Slot), fX5_allUnevenness_4 S1 n4 v1_4 v2_4 = some r → va_P (dC, dI) vwCl (fl [(w_X5 ad (b1) cs S1)]) H → va_D A (fl [(w_X5 ad (b1) cs S1)]) → va_S A s.heap H locs → lv_has ls 3 [(0, .ref (ad b1)), (1, .int v1_4), (2, .int v2_4)] → W p l e (headSpec wsX5_allUnevenness ({ frames := 3, cells := 0, slots := 0, locals := 66 } : Room)).room s m ([.ref (ad b1)] : List Value).toArray below meth c H locs 0 0 (MQ below (QI dC dI (tyL cs) A (fl [(w_X5 ad (b1) cs S1)]) r) ([.ref (ad b1)] : List Value).toArray s 0 0 A) (F0 m 4 ls []) := by
    intro n4
    induction n4 with
    | zero =>
      intro v1_4 v2_4 H locs ls hR hP hD hS hl
      exact nn_e hR
    | succ n4 hI4 =>
      intro v1_4 v2_4 H locs ls hR hP hD hS hl
      rw [fX5_allUnevenness_4] at hR
      refine lv_iload_n hx hb dX5_allUnevenness_4 rfl (lv_at hl 2 rfl) ?_
      refine lv_aload_n hx hb dX5_allUnevenness_5 rfl (lv_at hl 0 rfl) ?_
      refine va_get (D := (dC, dI)) (ci := 4) (v := .ref (ad (b1 + 1))) (C := RX5) (T := TX5) (N := 6) hx hb hts hinX5 hown hK hP 0 rfl rfl 0 (by decide) hF12 (fun _ h9 => h9) rfl dX5_allUnevenness_6 ?_
      refine va_get (D := (dC, dI)) (ci := 5) (v := .int (S1 0 4 0)) (C := RX6) (T := TX6) (N := 5) hx hb hts hinX6 hown hK hP 1 rfl rfl 0 (by decide) hF198 (fun _ h9 => h9) rfl dX5_allUnevenness_9 ?_
      refine lv_icmp_ge (tgt := 29) hx hb dX5_allUnevenness_12 (by decide) (fun c12 => ?_) (fun c12 => ?_)
      · replace hR := it_t hR c12
        refine lv_iload_n hx hb dX5_allUnevenness_29 rfl (lv_at hl 1 rfl) ?_
        replace hR := Option.some.inj hR
        have e9 := hR
        exact W.iret hx hb hr (fun t ht hW => ⟨⟨_, (), rfl, e9, by rw [ht]; exact hP, va_K.moved hW.alike hK, hD⟩, hS.F ht⟩) hS.2.2 dX5_allUnevenness_30
      · replace hR := it_f hR c12
        refine lv_iload_n hx hb dX5_allUnevenness_15 rfl (lv_at hl 1 rfl) ?_
        refine lv_aload_n hx hb dX5_allUnevenness_16 rfl (lv_at hl 0 rfl) ?_
        refine lv_iload_n hx hb dX5_allUnevenness_17 rfl (lv_at hl 2 rfl) ?_
        replace hR := bd_e hR
        obtain ⟨q18, gq18, hR⟩ := hR
        refine cl_Vi (As := [.int v2_4]) (rest := [.int v1_4]) (L := [(w_X5 ad (b1) cs S1)]) (L' := [(w_X5 ad (b1) cs S1)]) (Wc := [(w_X5 ad (b1) cs S1)]) (Wc' := [(w_X5 ad (b1) cs S1)]) (is := [0]) (js := []) ⟨hx, hb, hml, hown, hts⟩ (k_X5_unevenness l dC dI cs ad (b1) H.size S1 v2_4 q18 gq18) (cwV 1 hts gX5_allUnevenness_X5_unevenness rfl rfl rfl cd_X5_unevenness ⟨Nat.le_of_ble_eq_true rfl, Nat.le_of_ble_eq_true rfl⟩) hK hP hD hS hA ⟨rfl, rfl, rfl, rfl, rfl, rfl⟩ (jn_nd (is := [0]) hD rfl rfl) 0 4 rfl rfl rfl rfl rfl hl.1 (Nat.le_of_ble_eq_true rfl) dX5_allUnevenness_18 (fun H18 locs18 hP' hD' hS' => ?_)
        replace hS := hS'
        replace hP : va_P (dC, dI) vwCl (fl [(w_X5 ad (b1) cs S1)]) H18 := hP'
        replace hD : va_D A (fl [(w_X5 ad (b1) cs S1)]) := hD'
        clear hP' hD' hS'
        refine lv_iadd hx hb dX5_allUnevenness_21 ?_
        refine lv_istore_n (lv' := [(1, .int (v1_4 + q18)), (0, .ref (ad b1)), (2, .int v2_4)]) hx hb dX5_allUnevenness_22 rfl hl (Nat.le_of_ble_eq_true rfl) rfl (fun ls hl => ?_)
        refine lv_iinc (v := (v2_4 + 1)) (lv' := [(2, .int (v2_4 + 1)), (1, .int (v1_4 + q18)), (0, .ref (ad b1))]) hx hb dX5_allUnevenness_23 hl (k := 2) rfl rfl (Nat.le_of_ble_eq_true rfl) rfl (fun ls hl => ?_)
        refine lv_goto (tgt := 4) hx hb dX5_allUnevenness_26 (by decide) ?_
        exact hI4 (v1_4 + q18) (v2_4 + 1) H18 _ ls hR hP hD hS (lv_sub hl [2, 1, 0] rfl)
  refine lv_iconst (v := 0) hx hb dX5_allUnevenness_0 ic_0 ?_
  refine lv_istore_n (lv' := [(1, .int (0 : Int32)), (0, .ref (ad b1))]) hx hb dX5_allUnevenness_1 rfl hl (Nat.le_of_ble_eq_true rfl) rfl (fun ls hl => ?_)
  refine lv_iconst (v := 0) hx hb dX5_allUnevenness_2 ic_0 ?_
  refine lv_istore_n (lv' := [(2, .int (0 : Int32)), (1, .int (0 : Int32)), (0, .ref (ad b1))]) hx hb dX5_allUnevenness_3 rfl hl (Nat.le_of_ble_eq_true rfl) rfl (fun ls hl => ?_)
  exact hB4 fuel (0 : Int32) (0 : Int32) s.heap _ ls hR hP hD hS (lv_sub hl [2, 1, 0] rfl)
set_option maxHeartbeats 8000000 in
set_option maxRecDepth 100000 in
theorem k_X7_append (l : Launch) (dC : Nat → ClassId) (dI : Nat → Nat → Nat) (cs : Nat → ClassId) (ad : Nat → Nat) (en : Nat → Nat) (b1 : Nat) (sz : Nat) (S1 : T2) (p1 : Int32) (r : Int32) (u1 : T2) (hR : fX7_append S1 p1 = some (r, u1)) : Met l yX7_append wsX7_append ({ frames := 0, cells := 0, slots := 0, locals := 0 } : Room) (va_Pc [.ref (ad b1), .int p1] (pW dC dI (tyL cs) (fl [(w_X7 ad (b1) cs en S1)]) sz)) (QI dC dI (tyL cs) (va_A (fl [(w_X7 ad (b1) cs en S1)]) sz) (fl [(w_X7 ad (b1) cs en u1)]) r) 0 0 (va_A (fl [(w_X7 ad (b1) cs en S1)]) sz) := by
  refine mt_of (own := RX7) (cc := cX7_append) (maxL := 2) (ret := (some .int)) (Qc := fun A => QI dC dI (tyL cs) A (fl [(w_X7 ad (b1) cs en u1)]) r) rfl (by decide) rfl (Nat.le_of_ble_eq_true rfl) (fun p e s m below meth c A ls hsz hx hb hr hts hown hlocks hml hA hK hP hD hS hl => ?_)
  subst hsz
  have hl : lv_has ls 2 [(0, .ref (ad b1)), (1, .int p1)] := hl
  have hF15 := hts (.fieldLink RX7 15 "DockedBikes$Text" "signs" "[C") (List.mem_of_getElem? (i := 2) rfl)
  have hF33 := hts (.fieldLink RX7 33 "DockedBikes$Text" "length" "I") (List.mem_of_getElem? (i := 1) rfl)
  have hinX7 : ∀ w ∈ wsX70, w ∈ wsX7_append := by decide +kernel
  refine lv_iload_n hx hb dX7_append_0 rfl (lv_at hl 1 rfl) ?_
  refine lv_bipush (v := 32) hx hb dX7_append_1 bp_32 ?_
  refine lv_icmp_lt (tgt := 12) hx hb dX7_append_3 (by decide) (fun c3 => ?_) (fun c3 => ?_)
  · replace hR := it_t hR c3
    refine lv_iconst (v := (-1)) hx hb dX7_append_12 ic_m1 ?_
    replace hR := Option.some.inj hR
    obtain ⟨e9, hR⟩ := Prod.mk.inj hR
    have eu1 := hR
    replace hP : va_P (dC, dI) vwCl (fl [(w_X7 ad (b1) cs en u1)]) s.heap := by rw [← eu1]; exact hP
    replace hD : va_D A (fl [(w_X7 ad (b1) cs en u1)]) := by rw [← eu1]; exact hD
    exact W.iret hx hb hr (fun t ht hW => ⟨⟨_, (), rfl, e9, by rw [ht]; exact hP, va_K.moved hW.alike hK, hD⟩, hS.F ht⟩) hS.2.2 dX7_append_13
  · replace hR := it_f hR c3
    refine lv_iload_n hx hb dX7_append_6 rfl (lv_at hl 1 rfl) ?_
    refine lv_bipush (v := 126) hx hb dX7_append_7 bp_126 ?_
    refine lv_icmp_le (tgt := 14) hx hb dX7_append_9 (by decide) (fun c9 => ?_) (fun c9 => ?_)
    · replace hR := it_t hR c9
      refine lv_aload_n hx hb dX7_append_14 rfl (lv_at hl 0 rfl) ?_
      refine va_get (D := (dC, dI)) (ci := 6) (v := .int (S1 2 0)) (C := RX7) (T := TX7) (N := 9) hx hb hts hinX7 hown hK hP 0 rfl rfl 0 (by decide) hF33 (fun _ h9 => h9) rfl dX7_append_15 ?_
      refine lv_bipush (v := 60) hx hb dX7_append_18 bp_60 ?_
      refine lv_icmp_lt (tgt := 26) hx hb dX7_append_20 (by decide) (fun c20 => ?_) (fun c20 => ?_)
      · replace hR := it_t hR c20
        refine lv_aload_n hx hb dX7_append_26 rfl (lv_at hl 0 rfl) ?_
        refine va_get (D := (dC, dI)) (ci := 6) (v := .ref (ad (b1 + 1))) (C := RX7) (T := TX7) (N := 9) hx hb hts hinX7 hown hK hP 0 rfl rfl 5 (by decide) hF15 (fun _ h9 => h9) rfl dX7_append_27 ?_
        refine lv_aload_n hx hb dX7_append_30 rfl (lv_at hl 0 rfl) ?_
        refine va_get (D := (dC, dI)) (ci := 6) (v := .int (S1 2 0)) (C := RX7) (T := TX7) (N := 9) hx hb hts hinX7 hown hK hP 0 rfl rfl 0 (by decide) hF33 (fun _ h9 => h9) rfl dX7_append_31 ?_
        refine lv_iload_n hx hb dX7_append_34 rfl (lv_at hl 1 rfl) ?_
        refine lv_i2c (v := (p1.toUInt32 % 65536).toInt32) hx hb dX7_append_35 rfl ?_
        replace hR := gi_e hR
        obtain ⟨i36, hR⟩ := hR
        refine va_cast hx hb hK hP hD hS 1 1 rfl rfl i36 dX7_append_36 (fun H36 locs36 hP' hD' hS' => ?_)
        replace hS := hS'
        have hP' : va_P (dC, dI) vwCl (fl [(w_X7 ad (b1) cs en (sU S1 0 (sU (S1 0) (S1 2 0).toNatClampNeg (vp_nar .char ((p1.toUInt32 % 65536).toInt32)))))]) H36 := hP'
        have hD' : va_D A (fl [(w_X7 ad (b1) cs en (sU S1 0 (sU (S1 0) (S1 2 0).toNatClampNeg (vp_nar .char ((p1.toUInt32 % 65536).toInt32)))))]) := hD'
        replace hR := bn_e hR
        obtain ⟨S1_36, eS1_36, hR⟩ := hR
        replace hP : va_P (dC, dI) vwCl (fl [(w_X7 ad (b1) cs en S1_36)]) H36 := by rw [eS1_36]; exact hP'
        replace hD : va_D A (fl [(w_X7 ad (b1) cs en S1_36)]) := by rw [eS1_36]; exact hD'
        clear hP' hD' hS'
        refine lv_aload_n hx hb dX7_append_37 rfl (lv_at hl 0 rfl) ?_
        refine lv_dup hx hb dX7_append_38 rfl ?_
        refine va_get (D := (dC, dI)) (ci := 6) (v := .int (S1_36 2 0)) (C := RX7) (T := TX7) (N := 9) hx hb hts hinX7 hown hK hP 0 rfl rfl 0 (by decide) hF33 (fun _ h9 => h9) rfl dX7_append_39 ?_
        refine lv_iconst (v := 1) hx hb dX7_append_42 ic_1 ?_
        refine lv_iadd hx hb dX7_append_43 ?_
        refine va_put (D := (dC, dI)) (ci := 6) (v := .int ((S1_36 2 0) + 1)) (ty := .int) (C := RX7) (T := TX7) (N := 9) hx hb hts hinX7 tyX7 tyX7_ok nmX7 hown hK hP hD hS 0 rfl rfl 0 (by decide) hF33 (fun _ h9 => h9) rfl (by decide +kernel) rfl rfl (Nat.le_of_ble_eq_true rfl) dX7_append_44 (fun H44 locs44 hP' hD' hS' => ?_)
        replace hS := hS'
        have hP' : va_P (dC, dI) vwCl (fl [(w_X7 ad (b1) cs en (sU S1_36 2 (sU (S1_36 2) 0 ((S1_36 2 0) + 1))))]) H44 := hP'
        have hD' : va_D A (fl [(w_X7 ad (b1) cs en (sU S1_36 2 (sU (S1_36 2) 0 ((S1_36 2 0) + 1))))]) := hD'
        replace hR := bn_e hR
        obtain ⟨S1_44, eS1_44, hR⟩ := hR
        replace hP : va_P (dC, dI) vwCl (fl [(w_X7 ad (b1) cs en S1_44)]) H44 := by rw [eS1_44]; exact hP'
        replace hD : va_D A (fl [(w_X7 ad (b1) cs en S1_44)]) := by rw [eS1_44]; exact hD'
        clear hP' hD' hS'
        refine lv_aload_n hx hb dX7_append_47 rfl (lv_at hl 0 rfl) ?_
        refine va_get (D := (dC, dI)) (ci := 6) (v := .int (S1_44 2 0)) (C := RX7) (T := TX7) (N := 9) hx hb hts hinX7 hown hK hP 0 rfl rfl 0 (by decide) hF33 (fun _ h9 => h9) rfl dX7_append_48 ?_
        replace hR := Option.some.inj hR
        obtain ⟨e9, hR⟩ := Prod.mk.inj hR
        have eu1 := hR
        replace hP : va_P (dC, dI) vwCl (fl [(w_X7 ad (b1) cs en u1)]) H44 := by rw [← eu1]; exact hP
        replace hD : va_D A (fl [(w_X7 ad (b1) cs en u1)]) := by rw [← eu1]; exact hD
        exact W.iret hx hb hr (fun t ht hW => ⟨⟨_, (), rfl, e9, by rw [ht]; exact hP, va_K.moved hW.alike hK, hD⟩, hS.F ht⟩) hS.2.2 dX7_append_51
      · replace hR := it_f hR c20
        refine lv_bipush (v := (-3)) hx hb dX7_append_23 bp_m3 ?_
        replace hR := Option.some.inj hR
        obtain ⟨e9, hR⟩ := Prod.mk.inj hR
        have eu1 := hR
        replace hP : va_P (dC, dI) vwCl (fl [(w_X7 ad (b1) cs en u1)]) s.heap := by rw [← eu1]; exact hP
        replace hD : va_D A (fl [(w_X7 ad (b1) cs en u1)]) := by rw [← eu1]; exact hD
        exact W.iret hx hb hr (fun t ht hW => ⟨⟨_, (), rfl, e9, by rw [ht]; exact hP, va_K.moved hW.alike hK, hD⟩, hS.F ht⟩) hS.2.2 dX7_append_25
    · replace hR := it_f hR c9
      refine lv_iconst (v := (-1)) hx hb dX7_append_12 ic_m1 ?_
      replace hR := Option.some.inj hR
      obtain ⟨e9, hR⟩ := Prod.mk.inj hR
      have eu1 := hR
      replace hP : va_P (dC, dI) vwCl (fl [(w_X7 ad (b1) cs en u1)]) s.heap := by rw [← eu1]; exact hP
      replace hD : va_D A (fl [(w_X7 ad (b1) cs en u1)]) := by rw [← eu1]; exact hD
      exact W.iret hx hb hr (fun t ht hW => ⟨⟨_, (), rfl, e9, by rw [ht]; exact hP, va_K.moved hW.alike hK, hD⟩, hS.F ht⟩) hS.2.2 dX7_append_13
set_option maxHeartbeats 8000000 in
set_option maxRecDepth 100000 in
theorem k_X7_empty (l : Launch) (dC : Nat → ClassId) (dI : Nat → Nat → Nat) (cs : Nat → ClassId) (ad : Nat → Nat) (en : Nat → Nat) (b1 : Nat) (sz : Nat) (S1 : T2) (r : Int32) (u1 : T2) (hR : fX7_empty S1 = some (r, u1)) : Met l yX7_empty wsX7_empty ({ frames := 0, cells := 0, slots := 0, locals := 0 } : Room) (va_Pc [.ref (ad b1)] (pW dC dI (tyL cs) (fl [(w_X7 ad (b1) cs en S1)]) sz)) (QI dC dI (tyL cs) (va_A (fl [(w_X7 ad (b1) cs en S1)]) sz) (fl [(w_X7 ad (b1) cs en u1)]) r) 0 0 (va_A (fl [(w_X7 ad (b1) cs en S1)]) sz) := by
  refine mt_of (own := RX7) (cc := cX7_empty) (maxL := 2) (ret := (some .int)) (Qc := fun A => QI dC dI (tyL cs) A (fl [(w_X7 ad (b1) cs en u1)]) r) rfl (by decide) rfl (Nat.le_of_ble_eq_true rfl) (fun p e s m below meth c A ls hsz hx hb hr hts hown hlocks hml hA hK hP hD hS hl => ?_)
  subst hsz
  have hl : lv_has ls 2 [(0, .ref (ad b1))] := hl
  have hF33 := hts (.fieldLink RX7 33 "DockedBikes$Text" "length" "I") (List.mem_of_getElem? (i := 1) rfl)
  have hinX7 : ∀ w ∈ wsX70, w ∈ wsX7_empty := by decide +kernel
  refine lv_aload_n hx hb dX7_empty_0 rfl (lv_at hl 0 rfl) ?_
  refine va_get (D := (dC, dI)) (ci := 6) (v := .int (S1 2 0)) (C := RX7) (T := TX7) (N := 9) hx hb hts hinX7 hown hK hP 0 rfl rfl 0 (by decide) hF33 (fun _ h9 => h9) rfl dX7_empty_1 ?_
  refine lv_istore_n (lv' := [(1, .int (S1 2 0)), (0, .ref (ad b1))]) hx hb dX7_empty_4 rfl hl (Nat.le_of_ble_eq_true rfl) rfl (fun ls hl => ?_)
  refine lv_aload_n hx hb dX7_empty_5 rfl (lv_at hl 1 rfl) ?_
  refine lv_iconst (v := 0) hx hb dX7_empty_6 ic_0 ?_
  refine va_put (D := (dC, dI)) (ci := 6) (v := .int (0 : Int32)) (ty := .int) (C := RX7) (T := TX7) (N := 9) hx hb hts hinX7 tyX7 tyX7_ok nmX7 hown hK hP hD hS 0 rfl rfl 0 (by decide) hF33 (fun _ h9 => h9) rfl (by decide +kernel) rfl rfl (Nat.le_of_ble_eq_true rfl) dX7_empty_7 (fun H7 locs7 hP' hD' hS' => ?_)
  replace hS := hS'
  have hP' : va_P (dC, dI) vwCl (fl [(w_X7 ad (b1) cs en (sU S1 2 (sU (S1 2) 0 (0 : Int32))))]) H7 := hP'
  have hD' : va_D A (fl [(w_X7 ad (b1) cs en (sU S1 2 (sU (S1 2) 0 (0 : Int32))))]) := hD'
  replace hR := bn_e hR
  obtain ⟨S1_7, eS1_7, hR⟩ := hR
  replace hP : va_P (dC, dI) vwCl (fl [(w_X7 ad (b1) cs en S1_7)]) H7 := by rw [eS1_7]; exact hP'
  replace hD : va_D A (fl [(w_X7 ad (b1) cs en S1_7)]) := by rw [eS1_7]; exact hD'
  clear hP' hD' hS'
  refine lv_iload_n hx hb dX7_empty_10 rfl (lv_at hl 0 rfl) ?_
  replace hR := Option.some.inj hR
  obtain ⟨e9, hR⟩ := Prod.mk.inj hR
  have eu1 := hR
  replace hP : va_P (dC, dI) vwCl (fl [(w_X7 ad (b1) cs en u1)]) H7 := by rw [← eu1]; exact hP
  replace hD : va_D A (fl [(w_X7 ad (b1) cs en u1)]) := by rw [← eu1]; exact hD
  exact W.iret hx hb hr (fun t ht hW => ⟨⟨_, (), rfl, e9, by rw [ht]; exact hP, va_K.moved hW.alike hK, hD⟩, hS.F ht⟩) hS.2.2 dX7_empty_11
set_option maxHeartbeats 8000000 in
set_option maxRecDepth 100000 in
theorem k_X7_hasFault (l : Launch) (dC : Nat → ClassId) (dI : Nat → Nat → Nat) (cs : Nat → ClassId) (ad : Nat → Nat) (en : Nat → Nat) (b1 : Nat) (sz : Nat) (S1 : T2) (r : Int32) (hR : fX7_hasFault S1 = some r) : Met l yX7_hasFault wsX7_hasFault ({ frames := 0, cells := 0, slots := 0, locals := 0 } : Room) (va_Pc [.ref (ad b1)] (pW dC dI (tyL cs) (fl [(w_X7 ad (b1) cs en S1)]) sz)) (QI dC dI (tyL cs) (va_A (fl [(w_X7 ad (b1) cs en S1)]) sz) (fl [(w_X7 ad (b1) cs en S1)]) r) 0 0 (va_A (fl [(w_X7 ad (b1) cs en S1)]) sz) := by
  refine mt_of (own := RX7) (cc := cX7_hasFault) (maxL := 1) (ret := (some .boolean)) (Qc := fun A => QI dC dI (tyL cs) A (fl [(w_X7 ad (b1) cs en S1)]) r) rfl (by decide) rfl (Nat.le_of_ble_eq_true rfl) (fun p e s m below meth c A ls hsz hx hb hr hts hown hlocks hml hA hK hP hD hS hl => ?_)
  subst hsz
  have hl : lv_has ls 1 [(0, .ref (ad b1))] := hl
  have hF11 := hts (.fieldLink RX7 11 "DockedBikes$Text" "faultAt" "I") (List.mem_of_getElem? (i := 1) rfl)
  have hinX7 : ∀ w ∈ wsX70, w ∈ wsX7_hasFault := by decide +kernel
  refine lv_aload_n hx hb dX7_hasFault_0 rfl (lv_at hl 0 rfl) ?_
  refine va_get (D := (dC, dI)) (ci := 6) (v := .int (S1 2 2)) (C := RX7) (T := TX7) (N := 9) hx hb hts hinX7 hown hK hP 0 rfl rfl 2 (by decide) hF11 (fun _ h9 => h9) rfl dX7_hasFault_1 ?_
  refine lv_iconst (v := (-1)) hx hb dX7_hasFault_4 ic_m1 ?_
  refine lv_icmp_eq (tgt := 12) hx hb dX7_hasFault_5 (by decide) (fun c5 => ?_) (fun c5 => ?_)
  · replace hR := it_t hR c5
    refine lv_iconst (v := 0) hx hb dX7_hasFault_12 ic_0 ?_
    replace hR := Option.some.inj hR
    have e9 := hR
    exact W.zret (ty := .boolean) hx hb hr (by decide) (fun t ht hW => ⟨⟨_, (), rfl, e9, by rw [ht]; exact hP, va_K.moved hW.alike hK, hD⟩, hS.F ht⟩) hS.2.2 dX7_hasFault_13
  · replace hR := it_f hR c5
    refine lv_iconst (v := 1) hx hb dX7_hasFault_8 ic_1 ?_
    refine lv_goto (tgt := 13) hx hb dX7_hasFault_9 (by decide) ?_
    replace hR := Option.some.inj hR
    have e9 := hR
    exact W.zret (ty := .boolean) hx hb hr (by decide) (fun t ht hW => ⟨⟨_, (), rfl, e9, by rw [ht]; exact hP, va_K.moved hW.alike hK, hD⟩, hS.F ht⟩) hS.2.2 dX7_hasFault_13
set_option maxHeartbeats 8000000 in
set_option maxRecDepth 100000 in
theorem k_X7_aboutFault (l : Launch) (dC : Nat → ClassId) (dI : Nat → Nat → Nat) (cs : Nat → ClassId) (ad : Nat → Nat) (en : Nat → Nat) (b1 : Nat) (sz : Nat) (S1 : T2) (p1 : Int32) (r : Int32) (hR : fX7_aboutFault S1 p1 = some r) : Met l yX7_aboutFault wsX7_aboutFault ({ frames := 1, cells := 0, slots := 0, locals := 20 } : Room) (va_Pc [.ref (ad b1), .int p1] (pW dC dI (tyL cs) (fl [(w_X7 ad (b1) cs en S1)]) sz)) (QI dC dI (tyL cs) (va_A (fl [(w_X7 ad (b1) cs en S1)]) sz) (fl [(w_X7 ad (b1) cs en S1)]) r) 0 0 (va_A (fl [(w_X7 ad (b1) cs en S1)]) sz) := by
  refine mt_of (own := RX7) (cc := cX7_aboutFault) (maxL := 2) (ret := (some .int)) (Qc := fun A => QI dC dI (tyL cs) A (fl [(w_X7 ad (b1) cs en S1)]) r) rfl (by decide) rfl (Nat.le_of_ble_eq_true rfl) (fun p e s m below meth c A ls hsz hx hb hr hts hown hlocks hml hA hK hP hD hS hl => ?_)
  subst hsz
  have hl : lv_has ls 2 [(0, .ref (ad b1)), (1, .int p1)] := hl
  have hF11 := hts (.fieldLink RX7 11 "DockedBikes$Text" "faultAt" "I") (List.mem_of_getElem? (i := 2) rfl)
  have hF40 := hts (.fieldLink RX7 40 "DockedBikes$Text" "reason" "I") (List.mem_of_getElem? (i := 1) rfl)
  have hF43 := hts (.fieldLink RX7 43 "DockedBikes$Text" "cause" "I") (List.mem_of_getElem? (i := 3) rfl)
  have hinX7 : ∀ w ∈ wsX70, w ∈ wsX7_aboutFault := by decide +kernel
  have hB23 : ∀ (H : Heap) (locs : List Loc) (ls : Array Slot), fX7_aboutFault_23 S1 p1 = some r → va_P (dC, dI) vwCl (fl [(w_X7 ad (b1) cs en S1)]) H → va_D A (fl [(w_X7 ad (b1) cs en S1)]) → va_S A s.heap H locs → lv_has ls 2 [(0, .ref (ad b1)), (1, .int p1)] → W p l e (headSpec wsX7_aboutFault ({ frames := 1, cells := 0, slots := 0, locals := 20 } : Room)).room s m ([.ref (ad b1), .int p1] : List Value).toArray below meth c H locs 0 0 (MQ below (QI dC dI (tyL cs) A (fl [(w_X7 ad (b1) cs en S1)]) r) ([.ref (ad b1), .int p1] : List Value).toArray s 0 0 A) (F0 m 23 ls []) := by
    intro H locs ls hR hP hD hS hl
    refine lv_iload_n hx hb dX7_aboutFault_23 rfl (lv_at hl 1 rfl) ?_
    by_cases c24_0 : p1 = 0
    · replace hR := it_t hR c24_0
      refine lv_lookup (off := 28) (tgt := 52) hx hb dX7_aboutFault_24 (by decide) (by rw [c24_0]; decide +kernel) (by decide) ?_
      refine lv_aload_n hx hb dX7_aboutFault_52 rfl (lv_at hl 0 rfl) ?_
      refine va_get (D := (dC, dI)) (ci := 6) (v := .int (S1 2 2)) (C := RX7) (T := TX7) (N := 9) hx hb hts hinX7 hown hK hP 0 rfl rfl 2 (by decide) hF11 (fun _ h9 => h9) rfl dX7_aboutFault_53 ?_
      replace hR := Option.some.inj hR
      have e9 := hR
      exact W.iret hx hb hr (fun t ht hW => ⟨⟨_, (), rfl, e9, by rw [ht]; exact hP, va_K.moved hW.alike hK, hD⟩, hS.F ht⟩) hS.2.2 dX7_aboutFault_56
    · replace hR := it_f hR c24_0
      by_cases c24_1 : p1 = 1
      · replace hR := it_t hR c24_1
        refine lv_lookup (off := 33) (tgt := 57) hx hb dX7_aboutFault_24 (by decide) (by rw [c24_1]; decide +kernel) (by decide) ?_
        refine lv_aload_n hx hb dX7_aboutFault_57 rfl (lv_at hl 0 rfl) ?_
        refine va_get (D := (dC, dI)) (ci := 6) (v := .int (S1 2 3)) (C := RX7) (T := TX7) (N := 9) hx hb hts hinX7 hown hK hP 0 rfl rfl 3 (by decide) hF40 (fun _ h9 => h9) rfl dX7_aboutFault_58 ?_
        replace hR := Option.some.inj hR
        have e9 := hR
        exact W.iret hx hb hr (fun t ht hW => ⟨⟨_, (), rfl, e9, by rw [ht]; exact hP, va_K.moved hW.alike hK, hD⟩, hS.F ht⟩) hS.2.2 dX7_aboutFault_61
      · replace hR := it_f hR c24_1
        refine lv_lookup (off := 38) (tgt := 62) hx hb dX7_aboutFault_24 (by decide) ((lv_osw c24_0 rfl).trans ((lv_osw c24_1 rfl).trans (rfl))) (by decide) ?_
        refine lv_aload_n hx hb dX7_aboutFault_62 rfl (lv_at hl 0 rfl) ?_
        refine va_get (D := (dC, dI)) (ci := 6) (v := .int (S1 2 4)) (C := RX7) (T := TX7) (N := 9) hx hb hts hinX7 hown hK hP 0 rfl rfl 4 (by decide) hF43 (fun _ h9 => h9) rfl dX7_aboutFault_63 ?_
        replace hR := Option.some.inj hR
        have e9 := hR
        exact W.iret hx hb hr (fun t ht hW => ⟨⟨_, (), rfl, e9, by rw [ht]; exact hP, va_K.moved hW.alike hK, hD⟩, hS.F ht⟩) hS.2.2 dX7_aboutFault_66
  refine lv_aload_n hx hb dX7_aboutFault_0 rfl (lv_at hl 0 rfl) ?_
  replace hR := bd_e hR
  obtain ⟨q1, gq1, hR⟩ := hR
  refine cl_Vi (As := []) (rest := []) (L := [(w_X7 ad (b1) cs en S1)]) (L' := [(w_X7 ad (b1) cs en S1)]) (Wc := [(w_X7 ad (b1) cs en S1)]) (Wc' := [(w_X7 ad (b1) cs en S1)]) (is := [0]) (js := []) ⟨hx, hb, hml, hown, hts⟩ (k_X7_hasFault l dC dI cs ad en (b1) s.heap.size S1 q1 gq1) (cwV 0 hts gX7_aboutFault_X7_hasFault rfl rfl rfl cd_X7_hasFault ⟨Nat.le_of_ble_eq_true rfl, Nat.le_of_ble_eq_true rfl⟩) hK hP hD hS hA ⟨rfl, rfl, rfl, rfl, rfl, rfl⟩ (jn_nd (is := [0]) hD rfl rfl) 0 6 rfl rfl rfl rfl rfl hl.1 (Nat.le_of_ble_eq_true rfl) dX7_aboutFault_1 (fun H1 locs1 hP' hD' hS' => ?_)
  replace hS := hS'
  replace hP : va_P (dC, dI) vwCl (fl [(w_X7 ad (b1) cs en S1)]) H1 := hP'
  replace hD : va_D A (fl [(w_X7 ad (b1) cs en S1)]) := hD'
  clear hP' hD' hS'
  refine lv_if_eq (tgt := 20) hx hb dX7_aboutFault_4 (by decide) (fun c4 => ?_) (fun c4 => ?_)
  · replace hR := it_t hR c4
    refine lv_bipush (v := (-4)) hx hb dX7_aboutFault_20 bp_m4 ?_
    replace hR := Option.some.inj hR
    have e9 := hR
    exact W.iret hx hb hr (fun t ht hW => ⟨⟨_, (), rfl, e9, by rw [ht]; exact hP, va_K.moved hW.alike hK, hD⟩, hS.F ht⟩) hS.2.2 dX7_aboutFault_22
  · replace hR := it_f hR c4
    refine lv_iload_n hx hb dX7_aboutFault_7 rfl (lv_at hl 1 rfl) ?_
    refine lv_iconst (v := 2) hx hb dX7_aboutFault_8 ic_2 ?_
    refine lv_icmp_ne (tgt := 23) hx hb dX7_aboutFault_9 (by decide) (fun c9 => ?_) (fun c9 => ?_)
    · replace hR := it_f hR c9
      exact hB23 H1 _ ls hR hP hD hS (lv_sub hl [0, 1] rfl)
    · replace hR := it_t hR c9
      refine lv_aload_n hx hb dX7_aboutFault_12 rfl (lv_at hl 0 rfl) ?_
      refine va_get (D := (dC, dI)) (ci := 6) (v := .int (S1 2 3)) (C := RX7) (T := TX7) (N := 9) hx hb hts hinX7 hown hK hP 0 rfl rfl 3 (by decide) hF40 (fun _ h9 => h9) rfl dX7_aboutFault_13 ?_
      refine lv_iconst (v := 1) hx hb dX7_aboutFault_16 ic_1 ?_
      refine lv_icmp_ne (tgt := 23) hx hb dX7_aboutFault_17 (by decide) (fun c17 => ?_) (fun c17 => ?_)
      · replace hR := it_f hR c17
        exact hB23 H1 _ ls hR hP hD hS (lv_sub hl [0, 1] rfl)
      · replace hR := it_t hR c17
        refine lv_bipush (v := (-4)) hx hb dX7_aboutFault_20 bp_m4 ?_
        replace hR := Option.some.inj hR
        have e9 := hR
        exact W.iret hx hb hr (fun t ht hW => ⟨⟨_, (), rfl, e9, by rw [ht]; exact hP, va_K.moved hW.alike hK, hD⟩, hS.F ht⟩) hS.2.2 dX7_aboutFault_22
set_option maxHeartbeats 8000000 in
set_option maxRecDepth 100000 in
theorem k_X7_readSign (l : Launch) (dC : Nat → ClassId) (dI : Nat → Nat → Nat) (cs : Nat → ClassId) (ad : Nat → Nat) (en : Nat → Nat) (b1 : Nat) (sz : Nat) (S1 : T2) (p1 : Int32) (r : Int32) (u1 : T2) (hR : fX7_readSign S1 p1 = some (r, u1)) : Met l yX7_readSign wsX7_readSign ({ frames := 0, cells := 0, slots := 0, locals := 0 } : Room) (va_Pc [.ref (ad b1), .int p1] (pW dC dI (tyL cs) (fl [(w_X7 ad (b1) cs en S1)]) sz)) (QI dC dI (tyL cs) (va_A (fl [(w_X7 ad (b1) cs en S1)]) sz) (fl [(w_X7 ad (b1) cs en u1)]) r) 0 0 (va_A (fl [(w_X7 ad (b1) cs en S1)]) sz) := by
  refine mt_of (own := RX7) (cc := cX7_readSign) (maxL := 2) (ret := (some .boolean)) (Qc := fun A => QI dC dI (tyL cs) A (fl [(w_X7 ad (b1) cs en u1)]) r) rfl (by decide) rfl (Nat.le_of_ble_eq_true rfl) (fun p e s m below meth c A ls hsz hx hb hr hts hown hlocks hml hA hK hP hD hS hl => ?_)
  subst hsz
  have hl : lv_has ls 2 [(0, .ref (ad b1)), (1, .int p1)] := hl
  have hF15 := hts (.fieldLink RX7 15 "DockedBikes$Text" "signs" "[C") (List.mem_of_getElem? (i := 3) rfl)
  have hF33 := hts (.fieldLink RX7 33 "DockedBikes$Text" "length" "I") (List.mem_of_getElem? (i := 2) rfl)
  have hF46 := hts (.fieldLink RX7 46 "DockedBikes$Text" "reading" "I") (List.mem_of_getElem? (i := 1) rfl)
  have hinX7 : ∀ w ∈ wsX70, w ∈ wsX7_readSign := by decide +kernel
  refine lv_aload_n hx hb dX7_readSign_0 rfl (lv_at hl 0 rfl) ?_
  refine va_get (D := (dC, dI)) (ci := 6) (v := .int (S1 2 5)) (C := RX7) (T := TX7) (N := 9) hx hb hts hinX7 hown hK hP 0 rfl rfl 8 (by decide) hF46 (fun _ h9 => h9) rfl dX7_readSign_1 ?_
  refine lv_aload_n hx hb dX7_readSign_4 rfl (lv_at hl 0 rfl) ?_
  refine va_get (D := (dC, dI)) (ci := 6) (v := .int (S1 2 0)) (C := RX7) (T := TX7) (N := 9) hx hb hts hinX7 hown hK hP 0 rfl rfl 0 (by decide) hF33 (fun _ h9 => h9) rfl dX7_readSign_5 ?_
  refine lv_icmp_ge (tgt := 24) hx hb dX7_readSign_8 (by decide) (fun c8 => ?_) (fun c8 => ?_)
  · replace hR := it_t hR c8
    refine lv_iconst (v := 0) hx hb dX7_readSign_24 ic_0 ?_
    replace hR := Option.some.inj hR
    obtain ⟨e9, hR⟩ := Prod.mk.inj hR
    have eu1 := hR
    replace hP : va_P (dC, dI) vwCl (fl [(w_X7 ad (b1) cs en u1)]) s.heap := by rw [← eu1]; exact hP
    replace hD : va_D A (fl [(w_X7 ad (b1) cs en u1)]) := by rw [← eu1]; exact hD
    exact W.zret (ty := .boolean) hx hb hr (by decide) (fun t ht hW => ⟨⟨_, (), rfl, e9, by rw [ht]; exact hP, va_K.moved hW.alike hK, hD⟩, hS.F ht⟩) hS.2.2 dX7_readSign_25
  · replace hR := it_f hR c8
    refine lv_aload_n hx hb dX7_readSign_11 rfl (lv_at hl 0 rfl) ?_
    refine va_get (D := (dC, dI)) (ci := 6) (v := .ref (ad (b1 + 1))) (C := RX7) (T := TX7) (N := 9) hx hb hts hinX7 hown hK hP 0 rfl rfl 5 (by decide) hF15 (fun _ h9 => h9) rfl dX7_readSign_12 ?_
    refine lv_aload_n hx hb dX7_readSign_15 rfl (lv_at hl 0 rfl) ?_
    refine va_get (D := (dC, dI)) (ci := 6) (v := .int (S1 2 5)) (C := RX7) (T := TX7) (N := 9) hx hb hts hinX7 hown hK hP 0 rfl rfl 8 (by decide) hF46 (fun _ h9 => h9) rfl dX7_readSign_16 ?_
    replace hR := gi_e hR
    obtain ⟨i19, hR⟩ := hR
    refine va_cald hx hb hK hP 1 1 rfl rfl i19 dX7_readSign_19 ?_
    refine lv_iload_n hx hb dX7_readSign_20 rfl (lv_at hl 1 rfl) ?_
    refine lv_icmp_eq (tgt := 26) hx hb dX7_readSign_21 (by decide) (fun c21 => ?_) (fun c21 => ?_)
    · replace hR := it_t hR c21
      refine lv_aload_n hx hb dX7_readSign_26 rfl (lv_at hl 0 rfl) ?_
      refine lv_dup hx hb dX7_readSign_27 rfl ?_
      refine va_get (D := (dC, dI)) (ci := 6) (v := .int (S1 2 5)) (C := RX7) (T := TX7) (N := 9) hx hb hts hinX7 hown hK hP 0 rfl rfl 8 (by decide) hF46 (fun _ h9 => h9) rfl dX7_readSign_28 ?_
      refine lv_iconst (v := 1) hx hb dX7_readSign_31 ic_1 ?_
      refine lv_iadd hx hb dX7_readSign_32 ?_
      refine va_put (D := (dC, dI)) (ci := 6) (v := .int ((S1 2 5) + 1)) (ty := .int) (C := RX7) (T := TX7) (N := 9) hx hb hts hinX7 tyX7 tyX7_ok nmX7 hown hK hP hD hS 0 rfl rfl 8 (by decide) hF46 (fun _ h9 => h9) rfl (by decide +kernel) rfl rfl (Nat.le_of_ble_eq_true rfl) dX7_readSign_33 (fun H33 locs33 hP' hD' hS' => ?_)
      replace hS := hS'
      have hP' : va_P (dC, dI) vwCl (fl [(w_X7 ad (b1) cs en (sU S1 2 (sU (S1 2) 5 ((S1 2 5) + 1))))]) H33 := hP'
      have hD' : va_D A (fl [(w_X7 ad (b1) cs en (sU S1 2 (sU (S1 2) 5 ((S1 2 5) + 1))))]) := hD'
      replace hR := bn_e hR
      obtain ⟨S1_33, eS1_33, hR⟩ := hR
      replace hP : va_P (dC, dI) vwCl (fl [(w_X7 ad (b1) cs en S1_33)]) H33 := by rw [eS1_33]; exact hP'
      replace hD : va_D A (fl [(w_X7 ad (b1) cs en S1_33)]) := by rw [eS1_33]; exact hD'
      clear hP' hD' hS'
      refine lv_iconst (v := 1) hx hb dX7_readSign_36 ic_1 ?_
      replace hR := Option.some.inj hR
      obtain ⟨e9, hR⟩ := Prod.mk.inj hR
      have eu1 := hR
      replace hP : va_P (dC, dI) vwCl (fl [(w_X7 ad (b1) cs en u1)]) H33 := by rw [← eu1]; exact hP
      replace hD : va_D A (fl [(w_X7 ad (b1) cs en u1)]) := by rw [← eu1]; exact hD
      exact W.zret (ty := .boolean) hx hb hr (by decide) (fun t ht hW => ⟨⟨_, (), rfl, e9, by rw [ht]; exact hP, va_K.moved hW.alike hK, hD⟩, hS.F ht⟩) hS.2.2 dX7_readSign_37
    · replace hR := it_f hR c21
      refine lv_iconst (v := 0) hx hb dX7_readSign_24 ic_0 ?_
      replace hR := Option.some.inj hR
      obtain ⟨e9, hR⟩ := Prod.mk.inj hR
      have eu1 := hR
      replace hP : va_P (dC, dI) vwCl (fl [(w_X7 ad (b1) cs en u1)]) s.heap := by rw [← eu1]; exact hP
      replace hD : va_D A (fl [(w_X7 ad (b1) cs en u1)]) := by rw [← eu1]; exact hD
      exact W.zret (ty := .boolean) hx hb hr (by decide) (fun t ht hW => ⟨⟨_, (), rfl, e9, by rw [ht]; exact hP, va_K.moved hW.alike hK, hD⟩, hS.F ht⟩) hS.2.2 dX7_readSign_25
set_option maxHeartbeats 8000000 in
set_option maxRecDepth 100000 in
theorem k_X7_isDigitAhead (l : Launch) (dC : Nat → ClassId) (dI : Nat → Nat → Nat) (cs : Nat → ClassId) (ad : Nat → Nat) (en : Nat → Nat) (b1 : Nat) (sz : Nat) (S1 : T2) (r : Int32) (hR : fX7_isDigitAhead S1 = some r) : Met l yX7_isDigitAhead wsX7_isDigitAhead ({ frames := 0, cells := 0, slots := 0, locals := 0 } : Room) (va_Pc [.ref (ad b1)] (pW dC dI (tyL cs) (fl [(w_X7 ad (b1) cs en S1)]) sz)) (QI dC dI (tyL cs) (va_A (fl [(w_X7 ad (b1) cs en S1)]) sz) (fl [(w_X7 ad (b1) cs en S1)]) r) 0 0 (va_A (fl [(w_X7 ad (b1) cs en S1)]) sz) := by
  refine mt_of (own := RX7) (cc := cX7_isDigitAhead) (maxL := 1) (ret := (some .boolean)) (Qc := fun A => QI dC dI (tyL cs) A (fl [(w_X7 ad (b1) cs en S1)]) r) rfl (by decide) rfl (Nat.le_of_ble_eq_true rfl) (fun p e s m below meth c A ls hsz hx hb hr hts hown hlocks hml hA hK hP hD hS hl => ?_)
  subst hsz
  have hl : lv_has ls 1 [(0, .ref (ad b1))] := hl
  have hF15 := hts (.fieldLink RX7 15 "DockedBikes$Text" "signs" "[C") (List.mem_of_getElem? (i := 3) rfl)
  have hF33 := hts (.fieldLink RX7 33 "DockedBikes$Text" "length" "I") (List.mem_of_getElem? (i := 2) rfl)
  have hF46 := hts (.fieldLink RX7 46 "DockedBikes$Text" "reading" "I") (List.mem_of_getElem? (i := 1) rfl)
  have hinX7 : ∀ w ∈ wsX70, w ∈ wsX7_isDigitAhead := by decide +kernel
  refine lv_aload_n hx hb dX7_isDigitAhead_0 rfl (lv_at hl 0 rfl) ?_
  refine va_get (D := (dC, dI)) (ci := 6) (v := .int (S1 2 5)) (C := RX7) (T := TX7) (N := 9) hx hb hts hinX7 hown hK hP 0 rfl rfl 8 (by decide) hF46 (fun _ h9 => h9) rfl dX7_isDigitAhead_1 ?_
  refine lv_aload_n hx hb dX7_isDigitAhead_4 rfl (lv_at hl 0 rfl) ?_
  refine va_get (D := (dC, dI)) (ci := 6) (v := .int (S1 2 0)) (C := RX7) (T := TX7) (N := 9) hx hb hts hinX7 hown hK hP 0 rfl rfl 0 (by decide) hF33 (fun _ h9 => h9) rfl dX7_isDigitAhead_5 ?_
  refine lv_icmp_ge (tgt := 43) hx hb dX7_isDigitAhead_8 (by decide) (fun c8 => ?_) (fun c8 => ?_)
  · replace hR := it_t hR c8
    refine lv_iconst (v := 0) hx hb dX7_isDigitAhead_43 ic_0 ?_
    replace hR := Option.some.inj hR
    have e9 := hR
    exact W.zret (ty := .boolean) hx hb hr (by decide) (fun t ht hW => ⟨⟨_, (), rfl, e9, by rw [ht]; exact hP, va_K.moved hW.alike hK, hD⟩, hS.F ht⟩) hS.2.2 dX7_isDigitAhead_44
  · replace hR := it_f hR c8
    refine lv_aload_n hx hb dX7_isDigitAhead_11 rfl (lv_at hl 0 rfl) ?_
    refine va_get (D := (dC, dI)) (ci := 6) (v := .ref (ad (b1 + 1))) (C := RX7) (T := TX7) (N := 9) hx hb hts hinX7 hown hK hP 0 rfl rfl 5 (by decide) hF15 (fun _ h9 => h9) rfl dX7_isDigitAhead_12 ?_
    refine lv_aload_n hx hb dX7_isDigitAhead_15 rfl (lv_at hl 0 rfl) ?_
    refine va_get (D := (dC, dI)) (ci := 6) (v := .int (S1 2 5)) (C := RX7) (T := TX7) (N := 9) hx hb hts hinX7 hown hK hP 0 rfl rfl 8 (by decide) hF46 (fun _ h9 => h9) rfl dX7_isDigitAhead_16 ?_
    replace hR := gi_e hR
    obtain ⟨i19, hR⟩ := hR
    refine va_cald hx hb hK hP 1 1 rfl rfl i19 dX7_isDigitAhead_19 ?_
    refine lv_bipush (v := 48) hx hb dX7_isDigitAhead_20 bp_48 ?_
    refine lv_icmp_lt (tgt := 43) hx hb dX7_isDigitAhead_22 (by decide) (fun c22 => ?_) (fun c22 => ?_)
    · replace hR := it_t hR c22
      refine lv_iconst (v := 0) hx hb dX7_isDigitAhead_43 ic_0 ?_
      replace hR := Option.some.inj hR
      have e9 := hR
      exact W.zret (ty := .boolean) hx hb hr (by decide) (fun t ht hW => ⟨⟨_, (), rfl, e9, by rw [ht]; exact hP, va_K.moved hW.alike hK, hD⟩, hS.F ht⟩) hS.2.2 dX7_isDigitAhead_44
    · replace hR := it_f hR c22
      refine lv_aload_n hx hb dX7_isDigitAhead_25 rfl (lv_at hl 0 rfl) ?_
      refine va_get (D := (dC, dI)) (ci := 6) (v := .ref (ad (b1 + 1))) (C := RX7) (T := TX7) (N := 9) hx hb hts hinX7 hown hK hP 0 rfl rfl 5 (by decide) hF15 (fun _ h9 => h9) rfl dX7_isDigitAhead_26 ?_
      refine lv_aload_n hx hb dX7_isDigitAhead_29 rfl (lv_at hl 0 rfl) ?_
      refine va_get (D := (dC, dI)) (ci := 6) (v := .int (S1 2 5)) (C := RX7) (T := TX7) (N := 9) hx hb hts hinX7 hown hK hP 0 rfl rfl 8 (by decide) hF46 (fun _ h9 => h9) rfl dX7_isDigitAhead_30 ?_
      replace hR := gi_e hR
      obtain ⟨i33, hR⟩ := hR
      refine va_cald hx hb hK hP 1 1 rfl rfl i33 dX7_isDigitAhead_33 ?_
      refine lv_bipush (v := 57) hx hb dX7_isDigitAhead_34 bp_57 ?_
      refine lv_icmp_gt (tgt := 43) hx hb dX7_isDigitAhead_36 (by decide) (fun c36 => ?_) (fun c36 => ?_)
      · replace hR := it_t hR c36
        refine lv_iconst (v := 0) hx hb dX7_isDigitAhead_43 ic_0 ?_
        replace hR := Option.some.inj hR
        have e9 := hR
        exact W.zret (ty := .boolean) hx hb hr (by decide) (fun t ht hW => ⟨⟨_, (), rfl, e9, by rw [ht]; exact hP, va_K.moved hW.alike hK, hD⟩, hS.F ht⟩) hS.2.2 dX7_isDigitAhead_44
      · replace hR := it_f hR c36
        refine lv_iconst (v := 1) hx hb dX7_isDigitAhead_39 ic_1 ?_
        refine lv_goto (tgt := 44) hx hb dX7_isDigitAhead_40 (by decide) ?_
        replace hR := Option.some.inj hR
        have e9 := hR
        exact W.zret (ty := .boolean) hx hb hr (by decide) (fun t ht hW => ⟨⟨_, (), rfl, e9, by rw [ht]; exact hP, va_K.moved hW.alike hK, hD⟩, hS.F ht⟩) hS.2.2 dX7_isDigitAhead_44
set_option maxHeartbeats 8000000 in
set_option maxRecDepth 100000 in
theorem k_X7_readNumber (l : Launch) (dC : Nat → ClassId) (dI : Nat → Nat → Nat) (cs : Nat → ClassId) (ad : Nat → Nat) (en : Nat → Nat) (b1 : Nat) (sz : Nat) (S1 : T2) (r : Int32) (u1 : T2) (hR : fX7_readNumber S1 = some (r, u1)) : Met l yX7_readNumber wsX7_readNumber ({ frames := 1, cells := 0, slots := 0, locals := 20 } : Room) (va_Pc [.ref (ad b1)] (pW dC dI (tyL cs) (fl [(w_X7 ad (b1) cs en S1)]) sz)) (QI dC dI (tyL cs) (va_A (fl [(w_X7 ad (b1) cs en S1)]) sz) (fl [(w_X7 ad (b1) cs en u1)]) r) 0 0 (va_A (fl [(w_X7 ad (b1) cs en S1)]) sz) := by
  refine mt_of (own := RX7) (cc := cX7_readNumber) (maxL := 3) (ret := (some .int)) (Qc := fun A => QI dC dI (tyL cs) A (fl [(w_X7 ad (b1) cs en u1)]) r) rfl (by decide) rfl (Nat.le_of_ble_eq_true rfl) (fun p e s m below meth c A ls hsz hx hb hr hts hown hlocks hml hA hK hP hD hS hl => ?_)
  subst hsz
  have hl : lv_has ls 3 [(0, .ref (ad b1))] := hl
  have hF15 := hts (.fieldLink RX7 15 "DockedBikes$Text" "signs" "[C") (List.mem_of_getElem? (i := 1) rfl)
  have hF46 := hts (.fieldLink RX7 46 "DockedBikes$Text" "reading" "I") (List.mem_of_getElem? (i := 2) rfl)
  have hinX7 : ∀ w ∈ wsX70, w ∈ wsX7_readNumber := by decide +kernel
  have hB4 : ∀ (n4 : Nat), ∀ (S1_4h : T2) (v1_4 : Int32) (v2_4 : Int32) (H : Heap) (locs : List Loc) (ls : Array Slot), fX7_readNumber_4 n4 S1_4h v1_4 v2_4 = some (r, u1) → va_P (dC, dI) vwCl (fl [(w_X7 ad (b1) cs en S1_4h)]) H → va_D A (fl [(w_X7 ad (b1) cs en S1_4h)]) → va_S A s.heap H locs → lv_has ls 3 [(0, .ref (ad b1)), (1, .int v1_4), (2, .int v2_4)] → W p l e (headSpec wsX7_readNumber ({ frames := 1, cells := 0, slots := 0, locals := 20 } : Room)).room s m ([.ref (ad b1)] : List Value).toArray below meth c H locs 0 0 (MQ below (QI dC dI (tyL cs) A (fl [(w_X7 ad (b1) cs en u1)]) r) ([.ref (ad b1)] : List Value).toArray s 0 0 A) (F0 m 4 ls []) := by
    intro n4
    induction n4 with
    | zero =>
      intro S1_4h v1_4 v2_4 H locs ls hR hP hD hS hl
      exact nn_e hR
    | succ n4 hI4 =>
      intro S1_4h v1_4 v2_4 H locs ls hR hP hD hS hl
      rw [fX7_readNumber_4] at hR
      refine lv_iload_n hx hb dX7_readNumber_4 rfl (lv_at hl 2 rfl) ?_
      refine lv_iconst (v := 3) hx hb dX7_readNumber_5 ic_3 ?_
      refine lv_icmp_ge (tgt := 50) hx hb dX7_readNumber_6 (by decide) (fun c6 => ?_) (fun c6 => ?_)
      · replace hR := it_t hR c6
        refine lv_iload_n hx hb dX7_readNumber_50 rfl (lv_at hl 1 rfl) ?_
        replace hR := Option.some.inj hR
        obtain ⟨e9, hR⟩ := Prod.mk.inj hR
        have eu1 := hR
        replace hP : va_P (dC, dI) vwCl (fl [(w_X7 ad (b1) cs en u1)]) H := by rw [← eu1]; exact hP
        replace hD : va_D A (fl [(w_X7 ad (b1) cs en u1)]) := by rw [← eu1]; exact hD
        exact W.iret hx hb hr (fun t ht hW => ⟨⟨_, (), rfl, e9, by rw [ht]; exact hP, va_K.moved hW.alike hK, hD⟩, hS.F ht⟩) hS.2.2 dX7_readNumber_51
      · replace hR := it_f hR c6
        refine lv_aload_n hx hb dX7_readNumber_9 rfl (lv_at hl 0 rfl) ?_
        replace hR := bd_e hR
        obtain ⟨q10, gq10, hR⟩ := hR
        refine cl_Vi (As := []) (rest := []) (L := [(w_X7 ad (b1) cs en S1_4h)]) (L' := [(w_X7 ad (b1) cs en S1_4h)]) (Wc := [(w_X7 ad (b1) cs en S1_4h)]) (Wc' := [(w_X7 ad (b1) cs en S1_4h)]) (is := [0]) (js := []) ⟨hx, hb, hml, hown, hts⟩ (k_X7_isDigitAhead l dC dI cs ad en (b1) H.size S1_4h q10 gq10) (cwV 0 hts gX7_readNumber_X7_isDigitAhead rfl rfl rfl cd_X7_isDigitAhead ⟨Nat.le_of_ble_eq_true rfl, Nat.le_of_ble_eq_true rfl⟩) hK hP hD hS hA ⟨rfl, rfl, rfl, rfl, rfl, rfl⟩ (jn_nd (is := [0]) hD rfl rfl) 0 6 rfl rfl rfl rfl rfl hl.1 (Nat.le_of_ble_eq_true rfl) dX7_readNumber_10 (fun H10 locs10 hP' hD' hS' => ?_)
        replace hS := hS'
        replace hP : va_P (dC, dI) vwCl (fl [(w_X7 ad (b1) cs en S1_4h)]) H10 := hP'
        replace hD : va_D A (fl [(w_X7 ad (b1) cs en S1_4h)]) := hD'
        clear hP' hD' hS'
        refine lv_if_eq (tgt := 50) hx hb dX7_readNumber_13 (by decide) (fun c13 => ?_) (fun c13 => ?_)
        · replace hR := it_t hR c13
          refine lv_iload_n hx hb dX7_readNumber_50 rfl (lv_at hl 1 rfl) ?_
          replace hR := Option.some.inj hR
          obtain ⟨e9, hR⟩ := Prod.mk.inj hR
          have eu1 := hR
          replace hP : va_P (dC, dI) vwCl (fl [(w_X7 ad (b1) cs en u1)]) H10 := by rw [← eu1]; exact hP
          replace hD : va_D A (fl [(w_X7 ad (b1) cs en u1)]) := by rw [← eu1]; exact hD
          exact W.iret hx hb hr (fun t ht hW => ⟨⟨_, (), rfl, e9, by rw [ht]; exact hP, va_K.moved hW.alike hK, hD⟩, hS.F ht⟩) hS.2.2 dX7_readNumber_51
        · replace hR := it_f hR c13
          refine lv_iload_n hx hb dX7_readNumber_16 rfl (lv_at hl 1 rfl) ?_
          refine lv_bipush (v := 10) hx hb dX7_readNumber_17 bp_10 ?_
          refine lv_imul hx hb dX7_readNumber_19 ?_
          refine lv_aload_n hx hb dX7_readNumber_20 rfl (lv_at hl 0 rfl) ?_
          refine va_get (D := (dC, dI)) (ci := 6) (v := .ref (ad (b1 + 1))) (C := RX7) (T := TX7) (N := 9) hx hb hts hinX7 hown hK hP 0 rfl rfl 5 (by decide) hF15 (fun _ h9 => h9) rfl dX7_readNumber_21 ?_
          refine lv_aload_n hx hb dX7_readNumber_24 rfl (lv_at hl 0 rfl) ?_
          refine va_get (D := (dC, dI)) (ci := 6) (v := .int (S1_4h 2 5)) (C := RX7) (T := TX7) (N := 9) hx hb hts hinX7 hown hK hP 0 rfl rfl 8 (by decide) hF46 (fun _ h9 => h9) rfl dX7_readNumber_25 ?_
          replace hR := gi_e hR
          obtain ⟨i28, hR⟩ := hR
          refine va_cald hx hb hK hP 1 1 rfl rfl i28 dX7_readNumber_28 ?_
          refine lv_iadd hx hb dX7_readNumber_29 ?_
          refine lv_bipush (v := 48) hx hb dX7_readNumber_30 bp_48 ?_
          refine lv_isub hx hb dX7_readNumber_32 ?_
          replace hR := bn_e hR
          obtain ⟨x33, ex33, hR⟩ := hR
          refine tp_e ex33 ?_
          refine lv_istore_n (lv' := [(1, .int x33), (0, .ref (ad b1)), (2, .int v2_4)]) hx hb dX7_readNumber_33 rfl hl (Nat.le_of_ble_eq_true rfl) rfl (fun ls hl => ?_)
          refine lv_aload_n hx hb dX7_readNumber_34 rfl (lv_at hl 1 rfl) ?_
          refine lv_dup hx hb dX7_readNumber_35 rfl ?_
          refine va_get (D := (dC, dI)) (ci := 6) (v := .int (S1_4h 2 5)) (C := RX7) (T := TX7) (N := 9) hx hb hts hinX7 hown hK hP 0 rfl rfl 8 (by decide) hF46 (fun _ h9 => h9) rfl dX7_readNumber_36 ?_
          refine lv_iconst (v := 1) hx hb dX7_readNumber_39 ic_1 ?_
          refine lv_iadd hx hb dX7_readNumber_40 ?_
          refine va_put (D := (dC, dI)) (ci := 6) (v := .int ((S1_4h 2 5) + 1)) (ty := .int) (C := RX7) (T := TX7) (N := 9) hx hb hts hinX7 tyX7 tyX7_ok nmX7 hown hK hP hD hS 0 rfl rfl 8 (by decide) hF46 (fun _ h9 => h9) rfl (by decide +kernel) rfl rfl (Nat.le_of_ble_eq_true rfl) dX7_readNumber_41 (fun H41 locs41 hP' hD' hS' => ?_)
          replace hS := hS'
          have hP' : va_P (dC, dI) vwCl (fl [(w_X7 ad (b1) cs en (sU S1_4h 2 (sU (S1_4h 2) 5 ((S1_4h 2 5) + 1))))]) H41 := hP'
          have hD' : va_D A (fl [(w_X7 ad (b1) cs en (sU S1_4h 2 (sU (S1_4h 2) 5 ((S1_4h 2 5) + 1))))]) := hD'
          replace hR := bn_e hR
          obtain ⟨S1_41, eS1_41, hR⟩ := hR
          replace hP : va_P (dC, dI) vwCl (fl [(w_X7 ad (b1) cs en S1_41)]) H41 := by rw [eS1_41]; exact hP'
          replace hD : va_D A (fl [(w_X7 ad (b1) cs en S1_41)]) := by rw [eS1_41]; exact hD'
          clear hP' hD' hS'
          refine lv_iinc (v := (v2_4 + 1)) (lv' := [(2, .int (v2_4 + 1)), (1, .int x33), (0, .ref (ad b1))]) hx hb dX7_readNumber_44 hl (k := 2) rfl rfl (Nat.le_of_ble_eq_true rfl) rfl (fun ls hl => ?_)
          refine lv_goto (tgt := 4) hx hb dX7_readNumber_47 (by decide) ?_
          exact hI4 S1_41 x33 (v2_4 + 1) H41 _ ls hR hP hD hS (lv_sub hl [2, 1, 0] rfl)
  refine lv_iconst (v := 0) hx hb dX7_readNumber_0 ic_0 ?_
  refine lv_istore_n (lv' := [(1, .int (0 : Int32)), (0, .ref (ad b1))]) hx hb dX7_readNumber_1 rfl hl (Nat.le_of_ble_eq_true rfl) rfl (fun ls hl => ?_)
  refine lv_iconst (v := 0) hx hb dX7_readNumber_2 ic_0 ?_
  refine lv_istore_n (lv' := [(2, .int (0 : Int32)), (1, .int (0 : Int32)), (0, .ref (ad b1))]) hx hb dX7_readNumber_3 rfl hl (Nat.le_of_ble_eq_true rfl) rfl (fun ls hl => ?_)
  exact hB4 fuel S1 (0 : Int32) (0 : Int32) s.heap _ ls hR hP hD hS (lv_sub hl [2, 1, 0] rfl)
set_option maxHeartbeats 8000000 in
set_option maxRecDepth 100000 in
theorem k_X7_readNumbers (l : Launch) (dC : Nat → ClassId) (dI : Nat → Nat → Nat) (cs : Nat → ClassId) (ad : Nat → Nat) (en : Nat → Nat) (b1 : Nat) (sz : Nat) (S1 : T2) (p1 : Int32) (r : Int32) (u1 : T2) (hR : fX7_readNumbers S1 p1 = some (r, u1)) : Met l yX7_readNumbers wsX7_readNumbers ({ frames := 2, cells := 0, slots := 0, locals := 42 } : Room) (va_Pc [.ref (ad b1), .int p1] (pW dC dI (tyL cs) (fl [(w_X7 ad (b1) cs en S1)]) sz)) (QI dC dI (tyL cs) (va_A (fl [(w_X7 ad (b1) cs en S1)]) sz) (fl [(w_X7 ad (b1) cs en u1)]) r) 0 0 (va_A (fl [(w_X7 ad (b1) cs en S1)]) sz) := by
  refine mt_of (own := RX7) (cc := cX7_readNumbers) (maxL := 3) (ret := (some .boolean)) (Qc := fun A => QI dC dI (tyL cs) A (fl [(w_X7 ad (b1) cs en u1)]) r) rfl (by decide) rfl (Nat.le_of_ble_eq_true rfl) (fun p e s m below meth c A ls hsz hx hb hr hts hown hlocks hml hA hK hP hD hS hl => ?_)
  subst hsz
  have hl : lv_has ls 3 [(0, .ref (ad b1)), (1, .int p1)] := hl
  have hF29 := hts (.fieldLink RX7 29 "DockedBikes$Text" "numbers" "[I") (List.mem_of_getElem? (i := 1) rfl)
  have hinX7 : ∀ w ∈ wsX70, w ∈ wsX7_readNumbers := by decide +kernel
  have hB2 : ∀ (n2 : Nat), ∀ (S1_2h : T2) (v2_2 : Int32) (H : Heap) (locs : List Loc) (ls : Array Slot), fX7_readNumbers_2 p1 n2 S1_2h v2_2 = some (r, u1) → va_P (dC, dI) vwCl (fl [(w_X7 ad (b1) cs en S1_2h)]) H → va_D A (fl [(w_X7 ad (b1) cs en S1_2h)]) → va_S A s.heap H locs → lv_has ls 3 [(0, .ref (ad b1)), (1, .int p1), (2, .int v2_2)] → W p l e (headSpec wsX7_readNumbers ({ frames := 2, cells := 0, slots := 0, locals := 42 } : Room)).room s m ([.ref (ad b1), .int p1] : List Value).toArray below meth c H locs 0 0 (MQ below (QI dC dI (tyL cs) A (fl [(w_X7 ad (b1) cs en u1)]) r) ([.ref (ad b1), .int p1] : List Value).toArray s 0 0 A) (F0 m 2 ls []) := by
    intro n2
    induction n2 with
    | zero =>
      intro S1_2h v2_2 H locs ls hR hP hD hS hl
      exact nn_e hR
    | succ n2 hI2 =>
      intro S1_2h v2_2 H locs ls hR hP hD hS hl
      rw [fX7_readNumbers_2] at hR
      refine lv_iload_n hx hb dX7_readNumbers_2 rfl (lv_at hl 2 rfl) ?_
      refine lv_iload_n hx hb dX7_readNumbers_3 rfl (lv_at hl 1 rfl) ?_
      refine lv_icmp_ge (tgt := 50) hx hb dX7_readNumbers_4 (by decide) (fun c4 => ?_) (fun c4 => ?_)
      · replace hR := it_t hR c4
        refine lv_iconst (v := 1) hx hb dX7_readNumbers_50 ic_1 ?_
        replace hR := Option.some.inj hR
        obtain ⟨e9, hR⟩ := Prod.mk.inj hR
        have eu1 := hR
        replace hP : va_P (dC, dI) vwCl (fl [(w_X7 ad (b1) cs en u1)]) H := by rw [← eu1]; exact hP
        replace hD : va_D A (fl [(w_X7 ad (b1) cs en u1)]) := by rw [← eu1]; exact hD
        exact W.zret (ty := .boolean) hx hb hr (by decide) (fun t ht hW => ⟨⟨_, (), rfl, e9, by rw [ht]; exact hP, va_K.moved hW.alike hK, hD⟩, hS.F ht⟩) hS.2.2 dX7_readNumbers_51
      · replace hR := it_f hR c4
        refine lv_iload_n hx hb dX7_readNumbers_7 rfl (lv_at hl 2 rfl) ?_
        refine lv_aload_n hx hb dX7_readNumbers_8 rfl (lv_at hl 0 rfl) ?_
        refine va_get (D := (dC, dI)) (ci := 6) (v := .ref (ad (b1 + 3))) (C := RX7) (T := TX7) (N := 9) hx hb hts hinX7 hown hK hP 0 rfl rfl 7 (by decide) hF29 (fun _ h9 => h9) rfl dX7_readNumbers_9 ?_
        refine va_alen (v := 2) hx hb hK hP 3 0 rfl (ty := .int) rfl rfl dX7_readNumbers_12 ?_
        refine lv_icmp_ge (tgt := 50) hx hb dX7_readNumbers_13 (by decide) (fun c13 => ?_) (fun c13 => ?_)
        · replace hR := it_t hR c13
          refine lv_iconst (v := 1) hx hb dX7_readNumbers_50 ic_1 ?_
          replace hR := Option.some.inj hR
          obtain ⟨e9, hR⟩ := Prod.mk.inj hR
          have eu1 := hR
          replace hP : va_P (dC, dI) vwCl (fl [(w_X7 ad (b1) cs en u1)]) H := by rw [← eu1]; exact hP
          replace hD : va_D A (fl [(w_X7 ad (b1) cs en u1)]) := by rw [← eu1]; exact hD
          exact W.zret (ty := .boolean) hx hb hr (by decide) (fun t ht hW => ⟨⟨_, (), rfl, e9, by rw [ht]; exact hP, va_K.moved hW.alike hK, hD⟩, hS.F ht⟩) hS.2.2 dX7_readNumbers_51
        · replace hR := it_f hR c13
          refine lv_aload_n hx hb dX7_readNumbers_16 rfl (lv_at hl 0 rfl) ?_
          refine lv_bipush (v := 32) hx hb dX7_readNumbers_17 bp_32 ?_
          replace hR := bd_e hR
          obtain ⟨q19, gq19, hR⟩ := hR
          refine cl_Vi (As := [.int (32 : Int32)]) (rest := []) (L := [(w_X7 ad (b1) cs en S1_2h)]) (L' := [(w_X7 ad (b1) cs en q19.2)]) (Wc := [(w_X7 ad (b1) cs en S1_2h)]) (Wc' := [(w_X7 ad (b1) cs en q19.2)]) (is := [0]) (js := []) ⟨hx, hb, hml, hown, hts⟩ (k_X7_readSign l dC dI cs ad en (b1) H.size S1_2h (32 : Int32) q19.1 q19.2 gq19) (cwV 1 hts gX7_readNumbers_X7_readSign rfl rfl rfl cd_X7_readSign ⟨Nat.le_of_ble_eq_true rfl, Nat.le_of_ble_eq_true rfl⟩) hK hP hD hS hA ⟨rfl, rfl, rfl, rfl, rfl, rfl⟩ (jn_nd (is := [0]) hD rfl rfl) 0 6 rfl rfl rfl rfl rfl hl.1 (Nat.le_of_ble_eq_true rfl) dX7_readNumbers_19 (fun H19 locs19 hP' hD' hS' => ?_)
          replace hS := hS'
          replace hP : va_P (dC, dI) vwCl (fl [(w_X7 ad (b1) cs en q19.2)]) H19 := hP'
          replace hD : va_D A (fl [(w_X7 ad (b1) cs en q19.2)]) := hD'
          clear hP' hD' hS'
          refine lv_if_eq (tgt := 32) hx hb dX7_readNumbers_22 (by decide) (fun c22 => ?_) (fun c22 => ?_)
          · replace hR := it_t hR c22
            refine lv_iconst (v := 0) hx hb dX7_readNumbers_32 ic_0 ?_
            replace hR := Option.some.inj hR
            obtain ⟨e9, hR⟩ := Prod.mk.inj hR
            have eu1 := hR
            replace hP : va_P (dC, dI) vwCl (fl [(w_X7 ad (b1) cs en u1)]) H19 := by rw [← eu1]; exact hP
            replace hD : va_D A (fl [(w_X7 ad (b1) cs en u1)]) := by rw [← eu1]; exact hD
            exact W.zret (ty := .boolean) hx hb hr (by decide) (fun t ht hW => ⟨⟨_, (), rfl, e9, by rw [ht]; exact hP, va_K.moved hW.alike hK, hD⟩, hS.F ht⟩) hS.2.2 dX7_readNumbers_33
          · replace hR := it_f hR c22
            refine lv_aload_n hx hb dX7_readNumbers_25 rfl (lv_at hl 0 rfl) ?_
            replace hR := bd_e hR
            obtain ⟨q26, gq26, hR⟩ := hR
            refine cl_Vi (As := []) (rest := []) (L := [(w_X7 ad (b1) cs en q19.2)]) (L' := [(w_X7 ad (b1) cs en q19.2)]) (Wc := [(w_X7 ad (b1) cs en q19.2)]) (Wc' := [(w_X7 ad (b1) cs en q19.2)]) (is := [0]) (js := []) ⟨hx, hb, hml, hown, hts⟩ (k_X7_isDigitAhead l dC dI cs ad en (b1) H19.size q19.2 q26 gq26) (cwV 0 hts gX7_readNumbers_X7_isDigitAhead rfl rfl rfl cd_X7_isDigitAhead ⟨Nat.le_of_ble_eq_true rfl, Nat.le_of_ble_eq_true rfl⟩) hK hP hD hS hA ⟨rfl, rfl, rfl, rfl, rfl, rfl⟩ (jn_nd (is := [0]) hD rfl rfl) 0 6 rfl rfl rfl rfl rfl hl.1 (Nat.le_of_ble_eq_true rfl) dX7_readNumbers_26 (fun H26 locs26 hP' hD' hS' => ?_)
            replace hS := hS'
            replace hP : va_P (dC, dI) vwCl (fl [(w_X7 ad (b1) cs en q19.2)]) H26 := hP'
            replace hD : va_D A (fl [(w_X7 ad (b1) cs en q19.2)]) := hD'
            clear hP' hD' hS'
            refine lv_if_ne (tgt := 34) hx hb dX7_readNumbers_29 (by decide) (fun c29 => ?_) (fun c29 => ?_)
            · replace hR := it_f hR c29
              refine lv_aload_n hx hb dX7_readNumbers_34 rfl (lv_at hl 0 rfl) ?_
              refine va_get (D := (dC, dI)) (ci := 6) (v := .ref (ad (b1 + 3))) (C := RX7) (T := TX7) (N := 9) hx hb hts hinX7 hown hK hP 0 rfl rfl 7 (by decide) hF29 (fun _ h9 => h9) rfl dX7_readNumbers_35 ?_
              refine lv_iload_n hx hb dX7_readNumbers_38 rfl (lv_at hl 2 rfl) ?_
              refine lv_aload_n hx hb dX7_readNumbers_39 rfl (lv_at hl 0 rfl) ?_
              replace hR := bd_e hR
              obtain ⟨q40, gq40, hR⟩ := hR
              refine cl_Vi (As := []) (rest := [.int v2_2, .ref (ad (b1 + 3))]) (L := [(w_X7 ad (b1) cs en q19.2)]) (L' := [(w_X7 ad (b1) cs en q40.2)]) (Wc := [(w_X7 ad (b1) cs en q19.2)]) (Wc' := [(w_X7 ad (b1) cs en q40.2)]) (is := [0]) (js := []) ⟨hx, hb, hml, hown, hts⟩ (k_X7_readNumber l dC dI cs ad en (b1) H26.size q19.2 q40.1 q40.2 gq40) (cwV 0 hts gX7_readNumbers_X7_readNumber rfl rfl rfl cd_X7_readNumber ⟨Nat.le_of_ble_eq_true rfl, Nat.le_of_ble_eq_true rfl⟩) hK hP hD hS hA ⟨rfl, rfl, rfl, rfl, rfl, rfl⟩ (jn_nd (is := [0]) hD rfl rfl) 0 6 rfl rfl rfl rfl rfl hl.1 (Nat.le_of_ble_eq_true rfl) dX7_readNumbers_40 (fun H40 locs40 hP' hD' hS' => ?_)
              replace hS := hS'
              replace hP : va_P (dC, dI) vwCl (fl [(w_X7 ad (b1) cs en q40.2)]) H40 := hP'
              replace hD : va_D A (fl [(w_X7 ad (b1) cs en q40.2)]) := hD'
              clear hP' hD' hS'
              replace hR := gi_e hR
              obtain ⟨i43, hR⟩ := hR
              refine va_iast hx hb hK hP hD hS 3 0 rfl rfl i43 dX7_readNumbers_43 (fun H43 locs43 hP' hD' hS' => ?_)
              replace hS := hS'
              have hP' : va_P (dC, dI) vwCl (fl [(w_X7 ad (b1) cs en (sU q40.2 1 (sU (q40.2 1) v2_2.toNatClampNeg q40.1)))]) H43 := hP'
              have hD' : va_D A (fl [(w_X7 ad (b1) cs en (sU q40.2 1 (sU (q40.2 1) v2_2.toNatClampNeg q40.1)))]) := hD'
              replace hR := bn_e hR
              obtain ⟨S1_43, eS1_43, hR⟩ := hR
              replace hP : va_P (dC, dI) vwCl (fl [(w_X7 ad (b1) cs en S1_43)]) H43 := by rw [eS1_43]; exact hP'
              replace hD : va_D A (fl [(w_X7 ad (b1) cs en S1_43)]) := by rw [eS1_43]; exact hD'
              clear hP' hD' hS'
              refine lv_iinc (v := (v2_2 + 1)) (lv' := [(2, .int (v2_2 + 1)), (0, .ref (ad b1)), (1, .int p1)]) hx hb dX7_readNumbers_44 hl (k := 2) rfl rfl (Nat.le_of_ble_eq_true rfl) rfl (fun ls hl => ?_)
              refine lv_goto (tgt := 2) hx hb dX7_readNumbers_47 (by decide) ?_
              exact hI2 S1_43 (v2_2 + 1) H43 _ ls hR hP hD hS (lv_sub hl [1, 2, 0] rfl)
            · replace hR := it_t hR c29
              refine lv_iconst (v := 0) hx hb dX7_readNumbers_32 ic_0 ?_
              replace hR := Option.some.inj hR
              obtain ⟨e9, hR⟩ := Prod.mk.inj hR
              have eu1 := hR
              replace hP : va_P (dC, dI) vwCl (fl [(w_X7 ad (b1) cs en u1)]) H26 := by rw [← eu1]; exact hP
              replace hD : va_D A (fl [(w_X7 ad (b1) cs en u1)]) := by rw [← eu1]; exact hD
              exact W.zret (ty := .boolean) hx hb hr (by decide) (fun t ht hW => ⟨⟨_, (), rfl, e9, by rw [ht]; exact hP, va_K.moved hW.alike hK, hD⟩, hS.F ht⟩) hS.2.2 dX7_readNumbers_33
  refine lv_iconst (v := 0) hx hb dX7_readNumbers_0 ic_0 ?_
  refine lv_istore_n (lv' := [(2, .int (0 : Int32)), (0, .ref (ad b1)), (1, .int p1)]) hx hb dX7_readNumbers_1 rfl hl (Nat.le_of_ble_eq_true rfl) rfl (fun ls hl => ?_)
  exact hB2 fuel S1 (0 : Int32) s.heap _ ls hR hP hD hS (lv_sub hl [1, 2, 0] rfl)
set_option maxHeartbeats 8000000 in
set_option maxRecDepth 100000 in
theorem k_X8_minutesLeft (l : Launch) (dC : Nat → ClassId) (dI : Nat → Nat → Nat) (cs : Nat → ClassId) (ad : Nat → Nat) (b1 : Nat) (sz : Nat) (S1 : T2) (p1 : Int32) (p2 : Int32) (r : Int32) (hR : fX8_minutesLeft S1 p1 p2 = some r) : Met l yX8_minutesLeft wsX8_minutesLeft ({ frames := 1, cells := 0, slots := 0, locals := 21 } : Room) (va_Pc [.ref (ad b1), .int p1, .int p2] (pW dC dI (tyL cs) (fl [(w_X8 ad (b1) cs S1)]) sz)) (QI dC dI (tyL cs) (va_A (fl [(w_X8 ad (b1) cs S1)]) sz) (fl [(w_X8 ad (b1) cs S1)]) r) 0 0 (va_A (fl [(w_X8 ad (b1) cs S1)]) sz) := by
  refine mt_of (own := RX8) (cc := cX8_minutesLeft) (maxL := 3) (ret := (some .int)) (Qc := fun A => QI dC dI (tyL cs) A (fl [(w_X8 ad (b1) cs S1)]) r) rfl (by decide) rfl (Nat.le_of_ble_eq_true rfl) (fun p e s m below meth c A ls hsz hx hb hr hts hown hlocks hml hA hK hP hD hS hl => ?_)
  subst hsz
  have hl : lv_has ls 3 [(0, .ref (ad b1)), (1, .int p1), (2, .int p2)] := hl
  have hF18 := hts (.fieldLink RX8 18 "DockedBikes$Vans" "arrival" "[I") (List.mem_of_getElem? (i := 1) rfl)
  have hinX8 : ∀ w ∈ wsX80, w ∈ wsX8_minutesLeft := by decide +kernel
  refine lv_aload_n hx hb dX8_minutesLeft_0 rfl (lv_at hl 0 rfl) ?_
  refine lv_iload_n hx hb dX8_minutesLeft_1 rfl (lv_at hl 1 rfl) ?_
  replace hR := bd_e hR
  obtain ⟨q2, gq2, hR⟩ := hR
  refine cl_Vi (As := [.int p1]) (rest := []) (L := [(w_X8 ad (b1) cs S1)]) (L' := [(w_X8 ad (b1) cs S1)]) (Wc := [(w_X8 ad (b1) cs S1)]) (Wc' := [(w_X8 ad (b1) cs S1)]) (is := [0]) (js := []) ⟨hx, hb, hml, hown, hts⟩ (k_X8_has l dC dI cs ad (b1) s.heap.size S1 p1 q2 gq2) (cwV 1 hts gX8_minutesLeft_X8_has rfl rfl rfl cd_X8_has ⟨Nat.le_of_ble_eq_true rfl, Nat.le_of_ble_eq_true rfl⟩) hK hP hD hS hA ⟨rfl, rfl, rfl, rfl, rfl, rfl⟩ (jn_nd (is := [0]) hD rfl rfl) 0 7 rfl rfl rfl rfl rfl hl.1 (Nat.le_of_ble_eq_true rfl) dX8_minutesLeft_2 (fun H2 locs2 hP' hD' hS' => ?_)
  replace hS := hS'
  replace hP : va_P (dC, dI) vwCl (fl [(w_X8 ad (b1) cs S1)]) H2 := hP'
  replace hD : va_D A (fl [(w_X8 ad (b1) cs S1)]) := hD'
  clear hP' hD' hS'
  refine lv_if_eq (tgt := 23) hx hb dX8_minutesLeft_5 (by decide) (fun c5 => ?_) (fun c5 => ?_)
  · replace hR := it_t hR c5
    refine lv_iconst (v := 0) hx hb dX8_minutesLeft_23 ic_0 ?_
    replace hR := Option.some.inj hR
    have e9 := hR
    exact W.iret hx hb hr (fun t ht hW => ⟨⟨_, (), rfl, e9, by rw [ht]; exact hP, va_K.moved hW.alike hK, hD⟩, hS.F ht⟩) hS.2.2 dX8_minutesLeft_24
  · replace hR := it_f hR c5
    refine lv_iconst (v := 0) hx hb dX8_minutesLeft_8 ic_0 ?_
    refine lv_aload_n hx hb dX8_minutesLeft_9 rfl (lv_at hl 0 rfl) ?_
    refine va_get (D := (dC, dI)) (ci := 7) (v := .ref (ad (b1 + 3))) (C := RX8) (T := TX8) (N := 4) hx hb hts hinX8 hown hK hP 0 rfl rfl 3 (by decide) hF18 (fun _ h9 => h9) rfl dX8_minutesLeft_10 ?_
    refine lv_iload_n hx hb dX8_minutesLeft_13 rfl (lv_at hl 1 rfl) ?_
    replace hR := gi_e hR
    obtain ⟨i14, hR⟩ := hR
    refine va_iald hx hb hK hP 3 0 rfl rfl i14 dX8_minutesLeft_14 ?_
    refine lv_iload_n hx hb dX8_minutesLeft_15 rfl (lv_at hl 2 rfl) ?_
    refine lv_isub hx hb dX8_minutesLeft_16 ?_
    refine va_mmax hx hb (hml.trans hl.1.symm) hown (hts (.methodLink RX8 35 Lib.Math.max.name) (List.mem_of_getElem? (i := 2) rfl)) (hts (.static Lib.Math.max.name) (List.mem_of_getElem? (i := 3) rfl)) (hts (.initialized "java/lang/Math") (List.mem_of_getElem? (i := 4) rfl)) (hts (.code Lib.Math.max.name Lib.Math.max.code 2 (some .int)) (List.mem_of_getElem? (i := 5) rfl)) (Nat.le_of_ble_eq_true rfl) (Nat.le_of_ble_eq_true rfl) (Nat.zero_le _) (Nat.zero_le _) dX8_minutesLeft_17 ?_
    replace hR := bn_e hR
    obtain ⟨m17, em17, hR⟩ := hR
    refine tp_e em17 ?_
    refine lv_goto (tgt := 24) hx hb dX8_minutesLeft_20 (by decide) ?_
    replace hR := Option.some.inj hR
    have e9 := hR
    exact W.iret hx hb hr (fun t ht hW => ⟨⟨_, (), rfl, e9, by rw [ht]; exact hP, va_K.moved hW.alike hK, hD⟩, hS.F ht⟩) hS.2.2 dX8_minutesLeft_24
set_option maxHeartbeats 8000000 in
set_option maxRecDepth 100000 in
theorem k_X10_freshDraft (l : Launch) (dC : Nat → ClassId) (dI : Nat → Nat → Nat) (cs : Nat → ClassId) (ad : Nat → Nat) (en : Nat → Nat) (sz : Nat) (S1 : T5) (u1 : T5) (hR : fX10_freshDraft S1 = some u1) : Met l yX10_freshDraft wsX10_freshDraft ({ frames := 3, cells := 0, slots := 0, locals := 72 } : Room) (va_Pc [.ref (ad 0)] (pW dC dI (tyL cs) (fl [(w_X10 ad (0) cs en S1)]) sz)) (QA dC dI (tyL cs) (va_A (fl [(w_X10 ad (0) cs en S1)]) sz) (fl [(w_X10 ad (0) cs en u1)]) (ad (0 + 29))) 0 0 (va_A (fl [(w_X10 ad (0) cs en S1)]) sz) := by
  refine mt_of (own := RX10) (cc := cX10_freshDraft) (maxL := 1) (ret := (some (.object "DockedBikes$Road"))) (Qc := fun A => QA dC dI (tyL cs) A (fl [(w_X10 ad (0) cs en u1)]) (ad (0 + 29))) rfl (by decide) rfl (Nat.le_of_ble_eq_true rfl) (fun p e s m below meth c A ls hsz hx hb hr hts hown hlocks hml hA hK hP hD hS hl => ?_)
  subst hsz
  have hl : lv_has ls 1 [(0, .ref (ad 0))] := hl
  have hF10 := hts (.fieldLink RX10 10 "DockedBikes" "now" "LDockedBikes$Road;") (List.mem_of_getElem? (i := 2) rfl)
  have hF16 := hts (.fieldLink RX10 16 "DockedBikes" "draft" "LDockedBikes$Road;") (List.mem_of_getElem? (i := 1) rfl)
  have hinX10 : ∀ w ∈ wsX100, w ∈ wsX10_freshDraft := by decide +kernel
  refine lv_aload_n hx hb dX10_freshDraft_0 rfl (lv_at hl 0 rfl) ?_
  refine va_get (D := (dC, dI)) (ci := 8) (v := .ref (ad (0 + 29))) (C := RX10) (T := TX10) (N := 7) hx hb hts hinX10 hown hK hP 0 rfl rfl 1 (by decide) hF16 (fun _ h9 => h9) rfl dX10_freshDraft_1 ?_
  refine lv_aload_n hx hb dX10_freshDraft_4 rfl (lv_at hl 0 rfl) ?_
  refine va_get (D := (dC, dI)) (ci := 8) (v := .ref (ad (0 + 1))) (C := RX10) (T := TX10) (N := 7) hx hb hts hinX10 hown hK hP 0 rfl rfl 0 (by decide) hF10 (fun _ h9 => h9) rfl dX10_freshDraft_5 ?_
  replace hR := bd_e hR
  obtain ⟨q8, gq8, hR⟩ := hR
  replace hP : va_P (dC, dI) vwCl (fl [[((ad 0), .inr (8, [.ref (ad (0 + 1)), .ref (ad (0 + 29)), .ref (ad (0 + 57)), .int (S1 1 3 2 0 0), .ref (ad (0 + 85)), .ref (ad (0 + 199)), .ref (ad (0 + 202))]))], (w_X5 ad (0 + 1) cs (S1 1 0)), (w_X5 ad (0 + 29) cs (S1 1 1)), (w_X5 ad (0 + 57) cs (S1 1 2)), (w_X3 ad (0 + 85) cs (S1 0)), (w_X2 ad (0 + 199) cs (S1 1 3 0)), (w_X7 ad (0 + 202) cs en (S1 1 3 1))]) s.heap := hP
  replace hD : va_D A (fl [[((ad 0), .inr (8, [.ref (ad (0 + 1)), .ref (ad (0 + 29)), .ref (ad (0 + 57)), .int (S1 1 3 2 0 0), .ref (ad (0 + 85)), .ref (ad (0 + 199)), .ref (ad (0 + 202))]))], (w_X5 ad (0 + 1) cs (S1 1 0)), (w_X5 ad (0 + 29) cs (S1 1 1)), (w_X5 ad (0 + 57) cs (S1 1 2)), (w_X3 ad (0 + 85) cs (S1 0)), (w_X2 ad (0 + 199) cs (S1 1 3 0)), (w_X7 ad (0 + 202) cs en (S1 1 3 1))]) := hD
  refine cl_Vv (As := [.ref (ad (0 + 1))]) (rest := []) (L := [[((ad 0), .inr (8, [.ref (ad (0 + 1)), .ref (ad (0 + 29)), .ref (ad (0 + 57)), .int (S1 1 3 2 0 0), .ref (ad (0 + 85)), .ref (ad (0 + 199)), .ref (ad (0 + 202))]))], (w_X5 ad (0 + 1) cs (S1 1 0)), (w_X5 ad (0 + 29) cs (S1 1 1)), (w_X5 ad (0 + 57) cs (S1 1 2)), (w_X3 ad (0 + 85) cs (S1 0)), (w_X2 ad (0 + 199) cs (S1 1 3 0)), (w_X7 ad (0 + 202) cs en (S1 1 3 1))]) (L' := [[((ad 0), .inr (8, [.ref (ad (0 + 1)), .ref (ad (0 + 29)), .ref (ad (0 + 57)), .int ((sU S1 1 (sU (S1 1) 1 q8)) 1 3 2 0 0), .ref (ad (0 + 85)), .ref (ad (0 + 199)), .ref (ad (0 + 202))]))], (w_X5 ad (0 + 1) cs ((sU S1 1 (sU (S1 1) 1 q8)) 1 0)), (w_X5 ad (0 + 29) cs ((sU S1 1 (sU (S1 1) 1 q8)) 1 1)), (w_X5 ad (0 + 57) cs ((sU S1 1 (sU (S1 1) 1 q8)) 1 2)), (w_X3 ad (0 + 85) cs ((sU S1 1 (sU (S1 1) 1 q8)) 0)), (w_X2 ad (0 + 199) cs ((sU S1 1 (sU (S1 1) 1 q8)) 1 3 0)), (w_X7 ad (0 + 202) cs en ((sU S1 1 (sU (S1 1) 1 q8)) 1 3 1))]) (Wc := [(w_X5 ad (0 + 29) cs (S1 1 1)), (w_X5 ad (0 + 1) cs (S1 1 0))]) (Wc' := [(w_X5 ad (0 + 29) cs q8), (w_X5 ad (0 + 1) cs (S1 1 0))]) (is := [2, 1]) (js := [0, 3, 4, 5, 6]) ⟨hx, hb, hml, hown, hts⟩ (k_X5_copy l dC dI cs ad (0 + 29) (0 + 1) s.heap.size (S1 1 1) (S1 1 0) q8 gq8) (cwV 1 hts gX10_freshDraft_X5_copy rfl rfl rfl cd_X5_copy ⟨Nat.le_of_ble_eq_true rfl, Nat.le_of_ble_eq_true rfl⟩) hK hP hD hS hA ⟨rfl, rfl, rfl, rfl, rfl, rfl⟩ (jn_nd (is := [2, 1]) hD rfl rfl) 29 4 rfl rfl rfl rfl rfl hl.1 (Nat.le_of_ble_eq_true rfl) dX10_freshDraft_8 (fun H8 locs8 hP' hD' hS' => ?_)
  replace hS := hS'
  have hP' : va_P (dC, dI) vwCl (fl [(w_X10 ad (0) cs en (sU S1 1 (sU (S1 1) 1 q8)))]) H8 := hP'
  have hD' : va_D A (fl [(w_X10 ad (0) cs en (sU S1 1 (sU (S1 1) 1 q8)))]) := hD'
  replace hR := bn_e hR
  obtain ⟨S1_8, eS1_8, hR⟩ := hR
  replace hP : va_P (dC, dI) vwCl (fl [(w_X10 ad (0) cs en S1_8)]) H8 := by rw [eS1_8]; exact hP'
  replace hD : va_D A (fl [(w_X10 ad (0) cs en S1_8)]) := by rw [eS1_8]; exact hD'
  clear hP' hD' hS'
  refine lv_aload_n hx hb dX10_freshDraft_11 rfl (lv_at hl 0 rfl) ?_
  refine va_get (D := (dC, dI)) (ci := 8) (v := .ref (ad (0 + 29))) (C := RX10) (T := TX10) (N := 7) hx hb hts hinX10 hown hK hP 0 rfl rfl 1 (by decide) hF16 (fun _ h9 => h9) rfl dX10_freshDraft_12 ?_
  replace hR := Option.some.inj hR
  have eu1 := hR
  replace hP : va_P (dC, dI) vwCl (fl [(w_X10 ad (0) cs en u1)]) H8 := by rw [← eu1]; exact hP
  replace hD : va_D A (fl [(w_X10 ad (0) cs en u1)]) := by rw [← eu1]; exact hD
  exact W.aret hx hb hr (Or.inl ⟨_, rfl⟩) (Or.inr ⟨_, rfl⟩) (fun t ht hW => ⟨⟨(), _, rfl, trivial, rfl, by rw [ht]; exact hP, va_K.moved hW.alike hK, hD⟩, hS.F ht⟩) hS.2.2 dX10_freshDraft_15
set_option maxHeartbeats 8000000 in
set_option maxRecDepth 100000 in
theorem k_X10_settle (l : Launch) (dC : Nat → ClassId) (dI : Nat → Nat → Nat) (cs : Nat → ClassId) (ad : Nat → Nat) (en : Nat → Nat) (sz : Nat) (S1 : T5) (p1 : Int32) (r : Int32) (u1 : T5) (hR : fX10_settle S1 p1 = some (r, u1)) : Met l yX10_settle wsX10_settle ({ frames := 4, cells := 0, slots := 0, locals := 94 } : Room) (va_Pc [.ref (ad 0), .int p1] (pW dC dI (tyL cs) (fl [(w_X10 ad (0) cs en S1)]) sz)) (QI dC dI (tyL cs) (va_A (fl [(w_X10 ad (0) cs en S1)]) sz) (fl [(w_X10 ad (0) cs en u1)]) r) 0 0 (va_A (fl [(w_X10 ad (0) cs en S1)]) sz) := by
  refine mt_of (own := RX10) (cc := cX10_settle) (maxL := 2) (ret := (some .int)) (Qc := fun A => QI dC dI (tyL cs) A (fl [(w_X10 ad (0) cs en u1)]) r) rfl (by decide) rfl (Nat.le_of_ble_eq_true rfl) (fun p e s m below meth c A ls hsz hx hb hr hts hown hlocks hml hA hK hP hD hS hl => ?_)
  subst hsz
  have hl : lv_has ls 2 [(0, .ref (ad 0)), (1, .int p1)] := hl
  have hF10 := hts (.fieldLink RX10 10 "DockedBikes" "now" "LDockedBikes$Road;") (List.mem_of_getElem? (i := 2) rfl)
  have hF16 := hts (.fieldLink RX10 16 "DockedBikes" "draft" "LDockedBikes$Road;") (List.mem_of_getElem? (i := 3) rfl)
  have hF25 := hts (.fieldLink RX10 25 "DockedBikes" "history" "LDockedBikes$History;") (List.mem_of_getElem? (i := 1) rfl)
  have hinX10 : ∀ w ∈ wsX100, w ∈ wsX10_settle := by decide +kernel
  refine lv_iload_n hx hb dX10_settle_0 rfl (lv_at hl 1 rfl) ?_
  refine lv_if_lt (tgt := 26) hx hb dX10_settle_1 (by decide) (fun c1 => ?_) (fun c1 => ?_)
  · replace hR := it_t hR c1
    refine lv_iload_n hx hb dX10_settle_26 rfl (lv_at hl 1 rfl) ?_
    replace hR := Option.some.inj hR
    obtain ⟨e9, hR⟩ := Prod.mk.inj hR
    have eu1 := hR
    replace hP : va_P (dC, dI) vwCl (fl [(w_X10 ad (0) cs en u1)]) s.heap := by rw [← eu1]; exact hP
    replace hD : va_D A (fl [(w_X10 ad (0) cs en u1)]) := by rw [← eu1]; exact hD
    exact W.iret hx hb hr (fun t ht hW => ⟨⟨_, (), rfl, e9, by rw [ht]; exact hP, va_K.moved hW.alike hK, hD⟩, hS.F ht⟩) hS.2.2 dX10_settle_27
  · replace hR := it_f hR c1
    refine lv_aload_n hx hb dX10_settle_4 rfl (lv_at hl 0 rfl) ?_
    refine va_get (D := (dC, dI)) (ci := 8) (v := .ref (ad (0 + 85))) (C := RX10) (T := TX10) (N := 7) hx hb hts hinX10 hown hK hP 0 rfl rfl 4 (by decide) hF25 (fun _ h9 => h9) rfl dX10_settle_5 ?_
    refine lv_aload_n hx hb dX10_settle_8 rfl (lv_at hl 0 rfl) ?_
    refine va_get (D := (dC, dI)) (ci := 8) (v := .ref (ad (0 + 1))) (C := RX10) (T := TX10) (N := 7) hx hb hts hinX10 hown hK hP 0 rfl rfl 0 (by decide) hF10 (fun _ h9 => h9) rfl dX10_settle_9 ?_
    replace hR := bd_e hR
    obtain ⟨q12, gq12, hR⟩ := hR
    replace hP : va_P (dC, dI) vwCl (fl [[((ad 0), .inr (8, [.ref (ad (0 + 1)), .ref (ad (0 + 29)), .ref (ad (0 + 57)), .int (S1 1 3 2 0 0), .ref (ad (0 + 85)), .ref (ad (0 + 199)), .ref (ad (0 + 202))]))], (w_X5 ad (0 + 1) cs (S1 1 0)), (w_X5 ad (0 + 29) cs (S1 1 1)), (w_X5 ad (0 + 57) cs (S1 1 2)), (w_X3 ad (0 + 85) cs (S1 0)), (w_X2 ad (0 + 199) cs (S1 1 3 0)), (w_X7 ad (0 + 202) cs en (S1 1 3 1))]) s.heap := hP
    replace hD : va_D A (fl [[((ad 0), .inr (8, [.ref (ad (0 + 1)), .ref (ad (0 + 29)), .ref (ad (0 + 57)), .int (S1 1 3 2 0 0), .ref (ad (0 + 85)), .ref (ad (0 + 199)), .ref (ad (0 + 202))]))], (w_X5 ad (0 + 1) cs (S1 1 0)), (w_X5 ad (0 + 29) cs (S1 1 1)), (w_X5 ad (0 + 57) cs (S1 1 2)), (w_X3 ad (0 + 85) cs (S1 0)), (w_X2 ad (0 + 199) cs (S1 1 3 0)), (w_X7 ad (0 + 202) cs en (S1 1 3 1))]) := hD
    refine cl_Vv (As := [.ref (ad (0 + 1))]) (rest := []) (L := [[((ad 0), .inr (8, [.ref (ad (0 + 1)), .ref (ad (0 + 29)), .ref (ad (0 + 57)), .int (S1 1 3 2 0 0), .ref (ad (0 + 85)), .ref (ad (0 + 199)), .ref (ad (0 + 202))]))], (w_X5 ad (0 + 1) cs (S1 1 0)), (w_X5 ad (0 + 29) cs (S1 1 1)), (w_X5 ad (0 + 57) cs (S1 1 2)), (w_X3 ad (0 + 85) cs (S1 0)), (w_X2 ad (0 + 199) cs (S1 1 3 0)), (w_X7 ad (0 + 202) cs en (S1 1 3 1))]) (L' := [[((ad 0), .inr (8, [.ref (ad (0 + 1)), .ref (ad (0 + 29)), .ref (ad (0 + 57)), .int ((sU S1 0 q12) 1 3 2 0 0), .ref (ad (0 + 85)), .ref (ad (0 + 199)), .ref (ad (0 + 202))]))], (w_X5 ad (0 + 1) cs ((sU S1 0 q12) 1 0)), (w_X5 ad (0 + 29) cs ((sU S1 0 q12) 1 1)), (w_X5 ad (0 + 57) cs ((sU S1 0 q12) 1 2)), (w_X3 ad (0 + 85) cs ((sU S1 0 q12) 0)), (w_X2 ad (0 + 199) cs ((sU S1 0 q12) 1 3 0)), (w_X7 ad (0 + 202) cs en ((sU S1 0 q12) 1 3 1))]) (Wc := [(w_X3 ad (0 + 85) cs (S1 0)), (w_X5 ad (0 + 1) cs (S1 1 0))]) (Wc' := [(w_X3 ad (0 + 85) cs q12), (w_X5 ad (0 + 1) cs (S1 1 0))]) (is := [4, 1]) (js := [0, 2, 3, 5, 6]) ⟨hx, hb, hml, hown, hts⟩ (k_X3_record l dC dI cs ad (0 + 85) (0 + 1) s.heap.size (S1 0) (S1 1 0) q12 gq12) (cwV 1 hts gX10_settle_X3_record rfl rfl rfl cd_X3_record ⟨Nat.le_of_ble_eq_true rfl, Nat.le_of_ble_eq_true rfl⟩) hK hP hD hS hA ⟨rfl, rfl, rfl, rfl, rfl, rfl⟩ (jn_nd (is := [4, 1]) hD rfl rfl) 85 2 rfl rfl rfl rfl rfl hl.1 (Nat.le_of_ble_eq_true rfl) dX10_settle_12 (fun H12 locs12 hP' hD' hS' => ?_)
    replace hS := hS'
    have hP' : va_P (dC, dI) vwCl (fl [(w_X10 ad (0) cs en (sU S1 0 q12))]) H12 := hP'
    have hD' : va_D A (fl [(w_X10 ad (0) cs en (sU S1 0 q12))]) := hD'
    replace hR := bn_e hR
    obtain ⟨S1_12, eS1_12, hR⟩ := hR
    replace hP : va_P (dC, dI) vwCl (fl [(w_X10 ad (0) cs en S1_12)]) H12 := by rw [eS1_12]; exact hP'
    replace hD : va_D A (fl [(w_X10 ad (0) cs en S1_12)]) := by rw [eS1_12]; exact hD'
    clear hP' hD' hS'
    refine lv_aload_n hx hb dX10_settle_15 rfl (lv_at hl 0 rfl) ?_
    refine va_get (D := (dC, dI)) (ci := 8) (v := .ref (ad (0 + 1))) (C := RX10) (T := TX10) (N := 7) hx hb hts hinX10 hown hK hP 0 rfl rfl 0 (by decide) hF10 (fun _ h9 => h9) rfl dX10_settle_16 ?_
    refine lv_aload_n hx hb dX10_settle_19 rfl (lv_at hl 0 rfl) ?_
    refine va_get (D := (dC, dI)) (ci := 8) (v := .ref (ad (0 + 29))) (C := RX10) (T := TX10) (N := 7) hx hb hts hinX10 hown hK hP 0 rfl rfl 1 (by decide) hF16 (fun _ h9 => h9) rfl dX10_settle_20 ?_
    replace hR := bd_e hR
    obtain ⟨q23, gq23, hR⟩ := hR
    replace hP : va_P (dC, dI) vwCl (fl [[((ad 0), .inr (8, [.ref (ad (0 + 1)), .ref (ad (0 + 29)), .ref (ad (0 + 57)), .int (S1_12 1 3 2 0 0), .ref (ad (0 + 85)), .ref (ad (0 + 199)), .ref (ad (0 + 202))]))], (w_X5 ad (0 + 1) cs (S1_12 1 0)), (w_X5 ad (0 + 29) cs (S1_12 1 1)), (w_X5 ad (0 + 57) cs (S1_12 1 2)), (w_X3 ad (0 + 85) cs (S1_12 0)), (w_X2 ad (0 + 199) cs (S1_12 1 3 0)), (w_X7 ad (0 + 202) cs en (S1_12 1 3 1))]) H12 := hP
    replace hD : va_D A (fl [[((ad 0), .inr (8, [.ref (ad (0 + 1)), .ref (ad (0 + 29)), .ref (ad (0 + 57)), .int (S1_12 1 3 2 0 0), .ref (ad (0 + 85)), .ref (ad (0 + 199)), .ref (ad (0 + 202))]))], (w_X5 ad (0 + 1) cs (S1_12 1 0)), (w_X5 ad (0 + 29) cs (S1_12 1 1)), (w_X5 ad (0 + 57) cs (S1_12 1 2)), (w_X3 ad (0 + 85) cs (S1_12 0)), (w_X2 ad (0 + 199) cs (S1_12 1 3 0)), (w_X7 ad (0 + 202) cs en (S1_12 1 3 1))]) := hD
    refine cl_Vv (As := [.ref (ad (0 + 29))]) (rest := []) (L := [[((ad 0), .inr (8, [.ref (ad (0 + 1)), .ref (ad (0 + 29)), .ref (ad (0 + 57)), .int (S1_12 1 3 2 0 0), .ref (ad (0 + 85)), .ref (ad (0 + 199)), .ref (ad (0 + 202))]))], (w_X5 ad (0 + 1) cs (S1_12 1 0)), (w_X5 ad (0 + 29) cs (S1_12 1 1)), (w_X5 ad (0 + 57) cs (S1_12 1 2)), (w_X3 ad (0 + 85) cs (S1_12 0)), (w_X2 ad (0 + 199) cs (S1_12 1 3 0)), (w_X7 ad (0 + 202) cs en (S1_12 1 3 1))]) (L' := [[((ad 0), .inr (8, [.ref (ad (0 + 1)), .ref (ad (0 + 29)), .ref (ad (0 + 57)), .int ((sU S1_12 1 (sU (S1_12 1) 0 q23)) 1 3 2 0 0), .ref (ad (0 + 85)), .ref (ad (0 + 199)), .ref (ad (0 + 202))]))], (w_X5 ad (0 + 1) cs ((sU S1_12 1 (sU (S1_12 1) 0 q23)) 1 0)), (w_X5 ad (0 + 29) cs ((sU S1_12 1 (sU (S1_12 1) 0 q23)) 1 1)), (w_X5 ad (0 + 57) cs ((sU S1_12 1 (sU (S1_12 1) 0 q23)) 1 2)), (w_X3 ad (0 + 85) cs ((sU S1_12 1 (sU (S1_12 1) 0 q23)) 0)), (w_X2 ad (0 + 199) cs ((sU S1_12 1 (sU (S1_12 1) 0 q23)) 1 3 0)), (w_X7 ad (0 + 202) cs en ((sU S1_12 1 (sU (S1_12 1) 0 q23)) 1 3 1))]) (Wc := [(w_X5 ad (0 + 1) cs (S1_12 1 0)), (w_X5 ad (0 + 29) cs (S1_12 1 1))]) (Wc' := [(w_X5 ad (0 + 1) cs q23), (w_X5 ad (0 + 29) cs (S1_12 1 1))]) (is := [1, 2]) (js := [0, 3, 4, 5, 6]) ⟨hx, hb, hml, hown, hts⟩ (k_X5_copy l dC dI cs ad (0 + 1) (0 + 29) H12.size (S1_12 1 0) (S1_12 1 1) q23 gq23) (cwV 1 hts gX10_settle_X5_copy rfl rfl rfl cd_X5_copy ⟨Nat.le_of_ble_eq_true rfl, Nat.le_of_ble_eq_true rfl⟩) hK hP hD hS hA ⟨rfl, rfl, rfl, rfl, rfl, rfl⟩ (jn_nd (is := [1, 2]) hD rfl rfl) 1 4 rfl rfl rfl rfl rfl hl.1 (Nat.le_of_ble_eq_true rfl) dX10_settle_23 (fun H23 locs23 hP' hD' hS' => ?_)
    replace hS := hS'
    have hP' : va_P (dC, dI) vwCl (fl [(w_X10 ad (0) cs en (sU S1_12 1 (sU (S1_12 1) 0 q23)))]) H23 := hP'
    have hD' : va_D A (fl [(w_X10 ad (0) cs en (sU S1_12 1 (sU (S1_12 1) 0 q23)))]) := hD'
    replace hR := bn_e hR
    obtain ⟨S1_23, eS1_23, hR⟩ := hR
    replace hP : va_P (dC, dI) vwCl (fl [(w_X10 ad (0) cs en S1_23)]) H23 := by rw [eS1_23]; exact hP'
    replace hD : va_D A (fl [(w_X10 ad (0) cs en S1_23)]) := by rw [eS1_23]; exact hD'
    clear hP' hD' hS'
    refine lv_iload_n hx hb dX10_settle_26 rfl (lv_at hl 1 rfl) ?_
    replace hR := Option.some.inj hR
    obtain ⟨e9, hR⟩ := Prod.mk.inj hR
    have eu1 := hR
    replace hP : va_P (dC, dI) vwCl (fl [(w_X10 ad (0) cs en u1)]) H23 := by rw [← eu1]; exact hP
    replace hD : va_D A (fl [(w_X10 ad (0) cs en u1)]) := by rw [← eu1]; exact hD
    exact W.iret hx hb hr (fun t ht hW => ⟨⟨_, (), rfl, e9, by rw [ht]; exact hP, va_K.moved hW.alike hK, hD⟩, hS.F ht⟩) hS.2.2 dX10_settle_27
set_option maxHeartbeats 8000000 in
set_option maxRecDepth 100000 in
theorem k_X10_station (l : Launch) (dC : Nat → ClassId) (dI : Nat → Nat → Nat) (cs : Nat → ClassId) (ad : Nat → Nat) (en : Nat → Nat) (sz : Nat) (S1 : T5) (p1 : Int32) (p2 : Int32) (r : Int32) (u1 : T5) (hR : fX10_station S1 p1 p2 = some (r, u1)) : Met l yX10_station wsX10_station ({ frames := 5, cells := 0, slots := 0, locals := 115 } : Room) (va_Pc [.ref (ad 0), .int p1, .int p2] (pW dC dI (tyL cs) (fl [(w_X10 ad (0) cs en S1)]) sz)) (QI dC dI (tyL cs) (va_A (fl [(w_X10 ad (0) cs en S1)]) sz) (fl [(w_X10 ad (0) cs en u1)]) r) 0 0 (va_A (fl [(w_X10 ad (0) cs en S1)]) sz) := by
  refine mt_of (own := RX10) (cc := cX10_station) (maxL := 3) (ret := (some .int)) (Qc := fun A => QI dC dI (tyL cs) A (fl [(w_X10 ad (0) cs en u1)]) r) rfl (by decide) rfl (Nat.le_of_ble_eq_true rfl) (fun p e s m below meth c A ls hsz hx hb hr hts hown hlocks hml hA hK hP hD hS hl => ?_)
  subst hsz
  have hl : lv_has ls 3 [(0, .ref (ad 0)), (1, .int p1), (2, .int p2)] := hl
  refine lv_aload_n hx hb dX10_station_0 rfl (lv_at hl 0 rfl) ?_
  refine lv_aload_n hx hb dX10_station_1 rfl (lv_at hl 0 rfl) ?_
  replace hR := bd_e hR
  obtain ⟨q2, gq2, hR⟩ := hR
  refine cl_Va (As := []) (rest := [.ref (ad 0)]) (L := [(w_X10 ad (0) cs en S1)]) (L' := [(w_X10 ad (0) cs en q2)]) (Wc := [(w_X10 ad (0) cs en S1)]) (Wc' := [(w_X10 ad (0) cs en q2)]) (is := [0]) (js := []) ⟨hx, hb, hml, hown, hts⟩ (k_X10_freshDraft l dC dI cs ad en s.heap.size S1 q2 gq2) (cwV 0 hts gX10_station_X10_freshDraft rfl rfl rfl cd_X10_freshDraft ⟨Nat.le_of_ble_eq_true rfl, Nat.le_of_ble_eq_true rfl⟩) hK hP hD hS hA ⟨rfl, rfl, rfl, rfl, rfl, rfl⟩ (jn_nd (is := [0]) hD rfl rfl) 0 8 rfl rfl rfl rfl rfl hl.1 (Nat.le_of_ble_eq_true rfl) dX10_station_2 (fun H2 locs2 hP' hD' hS' => ?_)
  replace hS := hS'
  replace hP : va_P (dC, dI) vwCl (fl [(w_X10 ad (0) cs en q2)]) H2 := hP'
  replace hD : va_D A (fl [(w_X10 ad (0) cs en q2)]) := hD'
  clear hP' hD' hS'
  refine lv_iload_n hx hb dX10_station_5 rfl (lv_at hl 1 rfl) ?_
  refine lv_iload_n hx hb dX10_station_6 rfl (lv_at hl 2 rfl) ?_
  replace hR := bd_e hR
  obtain ⟨q7, gq7, hR⟩ := hR
  replace hP : va_P (dC, dI) vwCl (fl [[((ad 0), .inr (8, [.ref (ad (0 + 1)), .ref (ad (0 + 29)), .ref (ad (0 + 57)), .int (q2 1 3 2 0 0), .ref (ad (0 + 85)), .ref (ad (0 + 199)), .ref (ad (0 + 202))]))], (w_X5 ad (0 + 1) cs (q2 1 0)), (w_X5 ad (0 + 29) cs (q2 1 1)), (w_X5 ad (0 + 57) cs (q2 1 2)), (w_X3 ad (0 + 85) cs (q2 0)), (w_X2 ad (0 + 199) cs (q2 1 3 0)), (w_X7 ad (0 + 202) cs en (q2 1 3 1))]) H2 := hP
  replace hD : va_D A (fl [[((ad 0), .inr (8, [.ref (ad (0 + 1)), .ref (ad (0 + 29)), .ref (ad (0 + 57)), .int (q2 1 3 2 0 0), .ref (ad (0 + 85)), .ref (ad (0 + 199)), .ref (ad (0 + 202))]))], (w_X5 ad (0 + 1) cs (q2 1 0)), (w_X5 ad (0 + 29) cs (q2 1 1)), (w_X5 ad (0 + 57) cs (q2 1 2)), (w_X3 ad (0 + 85) cs (q2 0)), (w_X2 ad (0 + 199) cs (q2 1 3 0)), (w_X7 ad (0 + 202) cs en (q2 1 3 1))]) := hD
  refine cl_Vi (As := [.int p1, .int p2]) (rest := [.ref (ad 0)]) (L := [[((ad 0), .inr (8, [.ref (ad (0 + 1)), .ref (ad (0 + 29)), .ref (ad (0 + 57)), .int (q2 1 3 2 0 0), .ref (ad (0 + 85)), .ref (ad (0 + 199)), .ref (ad (0 + 202))]))], (w_X5 ad (0 + 1) cs (q2 1 0)), (w_X5 ad (0 + 29) cs (q2 1 1)), (w_X5 ad (0 + 57) cs (q2 1 2)), (w_X3 ad (0 + 85) cs (q2 0)), (w_X2 ad (0 + 199) cs (q2 1 3 0)), (w_X7 ad (0 + 202) cs en (q2 1 3 1))]) (L' := [[((ad 0), .inr (8, [.ref (ad (0 + 1)), .ref (ad (0 + 29)), .ref (ad (0 + 57)), .int ((sU q2 1 (sU (q2 1) 1 q7.2)) 1 3 2 0 0), .ref (ad (0 + 85)), .ref (ad (0 + 199)), .ref (ad (0 + 202))]))], (w_X5 ad (0 + 1) cs ((sU q2 1 (sU (q2 1) 1 q7.2)) 1 0)), (w_X5 ad (0 + 29) cs ((sU q2 1 (sU (q2 1) 1 q7.2)) 1 1)), (w_X5 ad (0 + 57) cs ((sU q2 1 (sU (q2 1) 1 q7.2)) 1 2)), (w_X3 ad (0 + 85) cs ((sU q2 1 (sU (q2 1) 1 q7.2)) 0)), (w_X2 ad (0 + 199) cs ((sU q2 1 (sU (q2 1) 1 q7.2)) 1 3 0)), (w_X7 ad (0 + 202) cs en ((sU q2 1 (sU (q2 1) 1 q7.2)) 1 3 1))]) (Wc := [(w_X5 ad (0 + 29) cs (q2 1 1))]) (Wc' := [(w_X5 ad (0 + 29) cs q7.2)]) (is := [2]) (js := [0, 1, 3, 4, 5, 6]) ⟨hx, hb, hml, hown, hts⟩ (k_X5_addStation l dC dI cs ad (0 + 29) H2.size (q2 1 1) p1 p2 q7.1 q7.2 gq7) (cwV 2 hts gX10_station_X5_addStation rfl rfl rfl cd_X5_addStation ⟨Nat.le_of_ble_eq_true rfl, Nat.le_of_ble_eq_true rfl⟩) hK hP hD hS hA ⟨rfl, rfl, rfl, rfl, rfl, rfl⟩ (jn_nd (is := [2]) hD rfl rfl) 29 4 rfl rfl rfl rfl rfl hl.1 (Nat.le_of_ble_eq_true rfl) dX10_station_7 (fun H7 locs7 hP' hD' hS' => ?_)
  replace hS := hS'
  have hP' : va_P (dC, dI) vwCl (fl [(w_X10 ad (0) cs en (sU q2 1 (sU (q2 1) 1 q7.2)))]) H7 := hP'
  have hD' : va_D A (fl [(w_X10 ad (0) cs en (sU q2 1 (sU (q2 1) 1 q7.2)))]) := hD'
  replace hR := bn_e hR
  obtain ⟨S1_7, eS1_7, hR⟩ := hR
  replace hP : va_P (dC, dI) vwCl (fl [(w_X10 ad (0) cs en S1_7)]) H7 := by rw [eS1_7]; exact hP'
  replace hD : va_D A (fl [(w_X10 ad (0) cs en S1_7)]) := by rw [eS1_7]; exact hD'
  clear hP' hD' hS'
  replace hR := bd_e hR
  obtain ⟨q10, gq10, hR⟩ := hR
  refine cl_Vi (As := [.int q7.1]) (rest := []) (L := [(w_X10 ad (0) cs en S1_7)]) (L' := [(w_X10 ad (0) cs en q10.2)]) (Wc := [(w_X10 ad (0) cs en S1_7)]) (Wc' := [(w_X10 ad (0) cs en q10.2)]) (is := [0]) (js := []) ⟨hx, hb, hml, hown, hts⟩ (k_X10_settle l dC dI cs ad en H7.size S1_7 q7.1 q10.1 q10.2 gq10) (cwV 1 hts gX10_station_X10_settle rfl rfl rfl cd_X10_settle ⟨Nat.le_of_ble_eq_true rfl, Nat.le_of_ble_eq_true rfl⟩) hK hP hD hS hA ⟨rfl, rfl, rfl, rfl, rfl, rfl⟩ (jn_nd (is := [0]) hD rfl rfl) 0 8 rfl rfl rfl rfl rfl hl.1 (Nat.le_of_ble_eq_true rfl) dX10_station_10 (fun H10 locs10 hP' hD' hS' => ?_)
  replace hS := hS'
  replace hP : va_P (dC, dI) vwCl (fl [(w_X10 ad (0) cs en q10.2)]) H10 := hP'
  replace hD : va_D A (fl [(w_X10 ad (0) cs en q10.2)]) := hD'
  clear hP' hD' hS'
  replace hR := Option.some.inj hR
  obtain ⟨e9, hR⟩ := Prod.mk.inj hR
  have eu1 := hR
  replace hP : va_P (dC, dI) vwCl (fl [(w_X10 ad (0) cs en u1)]) H10 := by rw [← eu1]; exact hP
  replace hD : va_D A (fl [(w_X10 ad (0) cs en u1)]) := by rw [← eu1]; exact hD
  exact W.iret hx hb hr (fun t ht hW => ⟨⟨_, (), rfl, e9, by rw [ht]; exact hP, va_K.moved hW.alike hK, hD⟩, hS.F ht⟩) hS.2.2 dX10_station_13
set_option maxHeartbeats 8000000 in
set_option maxRecDepth 100000 in
theorem k_X10_bicycle (l : Launch) (dC : Nat → ClassId) (dI : Nat → Nat → Nat) (cs : Nat → ClassId) (ad : Nat → Nat) (en : Nat → Nat) (sz : Nat) (S1 : T5) (p1 : Int32) (r : Int32) (u1 : T5) (hR : fX10_bicycle S1 p1 = some (r, u1)) : Met l yX10_bicycle wsX10_bicycle ({ frames := 5, cells := 0, slots := 0, locals := 115 } : Room) (va_Pc [.ref (ad 0), .int p1] (pW dC dI (tyL cs) (fl [(w_X10 ad (0) cs en S1)]) sz)) (QI dC dI (tyL cs) (va_A (fl [(w_X10 ad (0) cs en S1)]) sz) (fl [(w_X10 ad (0) cs en u1)]) r) 0 0 (va_A (fl [(w_X10 ad (0) cs en S1)]) sz) := by
  refine mt_of (own := RX10) (cc := cX10_bicycle) (maxL := 2) (ret := (some .int)) (Qc := fun A => QI dC dI (tyL cs) A (fl [(w_X10 ad (0) cs en u1)]) r) rfl (by decide) rfl (Nat.le_of_ble_eq_true rfl) (fun p e s m below meth c A ls hsz hx hb hr hts hown hlocks hml hA hK hP hD hS hl => ?_)
  subst hsz
  have hl : lv_has ls 2 [(0, .ref (ad 0)), (1, .int p1)] := hl
  refine lv_aload_n hx hb dX10_bicycle_0 rfl (lv_at hl 0 rfl) ?_
  refine lv_aload_n hx hb dX10_bicycle_1 rfl (lv_at hl 0 rfl) ?_
  replace hR := bd_e hR
  obtain ⟨q2, gq2, hR⟩ := hR
  refine cl_Va (As := []) (rest := [.ref (ad 0)]) (L := [(w_X10 ad (0) cs en S1)]) (L' := [(w_X10 ad (0) cs en q2)]) (Wc := [(w_X10 ad (0) cs en S1)]) (Wc' := [(w_X10 ad (0) cs en q2)]) (is := [0]) (js := []) ⟨hx, hb, hml, hown, hts⟩ (k_X10_freshDraft l dC dI cs ad en s.heap.size S1 q2 gq2) (cwV 0 hts gX10_bicycle_X10_freshDraft rfl rfl rfl cd_X10_freshDraft ⟨Nat.le_of_ble_eq_true rfl, Nat.le_of_ble_eq_true rfl⟩) hK hP hD hS hA ⟨rfl, rfl, rfl, rfl, rfl, rfl⟩ (jn_nd (is := [0]) hD rfl rfl) 0 8 rfl rfl rfl rfl rfl hl.1 (Nat.le_of_ble_eq_true rfl) dX10_bicycle_2 (fun H2 locs2 hP' hD' hS' => ?_)
  replace hS := hS'
  replace hP : va_P (dC, dI) vwCl (fl [(w_X10 ad (0) cs en q2)]) H2 := hP'
  replace hD : va_D A (fl [(w_X10 ad (0) cs en q2)]) := hD'
  clear hP' hD' hS'
  refine lv_iload_n hx hb dX10_bicycle_5 rfl (lv_at hl 1 rfl) ?_
  replace hR := bd_e hR
  obtain ⟨q6, gq6, hR⟩ := hR
  replace hP : va_P (dC, dI) vwCl (fl [[((ad 0), .inr (8, [.ref (ad (0 + 1)), .ref (ad (0 + 29)), .ref (ad (0 + 57)), .int (q2 1 3 2 0 0), .ref (ad (0 + 85)), .ref (ad (0 + 199)), .ref (ad (0 + 202))]))], (w_X5 ad (0 + 1) cs (q2 1 0)), (w_X5 ad (0 + 29) cs (q2 1 1)), (w_X5 ad (0 + 57) cs (q2 1 2)), (w_X3 ad (0 + 85) cs (q2 0)), (w_X2 ad (0 + 199) cs (q2 1 3 0)), (w_X7 ad (0 + 202) cs en (q2 1 3 1))]) H2 := hP
  replace hD : va_D A (fl [[((ad 0), .inr (8, [.ref (ad (0 + 1)), .ref (ad (0 + 29)), .ref (ad (0 + 57)), .int (q2 1 3 2 0 0), .ref (ad (0 + 85)), .ref (ad (0 + 199)), .ref (ad (0 + 202))]))], (w_X5 ad (0 + 1) cs (q2 1 0)), (w_X5 ad (0 + 29) cs (q2 1 1)), (w_X5 ad (0 + 57) cs (q2 1 2)), (w_X3 ad (0 + 85) cs (q2 0)), (w_X2 ad (0 + 199) cs (q2 1 3 0)), (w_X7 ad (0 + 202) cs en (q2 1 3 1))]) := hD
  refine cl_Vi (As := [.int p1]) (rest := [.ref (ad 0)]) (L := [[((ad 0), .inr (8, [.ref (ad (0 + 1)), .ref (ad (0 + 29)), .ref (ad (0 + 57)), .int (q2 1 3 2 0 0), .ref (ad (0 + 85)), .ref (ad (0 + 199)), .ref (ad (0 + 202))]))], (w_X5 ad (0 + 1) cs (q2 1 0)), (w_X5 ad (0 + 29) cs (q2 1 1)), (w_X5 ad (0 + 57) cs (q2 1 2)), (w_X3 ad (0 + 85) cs (q2 0)), (w_X2 ad (0 + 199) cs (q2 1 3 0)), (w_X7 ad (0 + 202) cs en (q2 1 3 1))]) (L' := [[((ad 0), .inr (8, [.ref (ad (0 + 1)), .ref (ad (0 + 29)), .ref (ad (0 + 57)), .int ((sU q2 1 (sU (q2 1) 1 q6.2)) 1 3 2 0 0), .ref (ad (0 + 85)), .ref (ad (0 + 199)), .ref (ad (0 + 202))]))], (w_X5 ad (0 + 1) cs ((sU q2 1 (sU (q2 1) 1 q6.2)) 1 0)), (w_X5 ad (0 + 29) cs ((sU q2 1 (sU (q2 1) 1 q6.2)) 1 1)), (w_X5 ad (0 + 57) cs ((sU q2 1 (sU (q2 1) 1 q6.2)) 1 2)), (w_X3 ad (0 + 85) cs ((sU q2 1 (sU (q2 1) 1 q6.2)) 0)), (w_X2 ad (0 + 199) cs ((sU q2 1 (sU (q2 1) 1 q6.2)) 1 3 0)), (w_X7 ad (0 + 202) cs en ((sU q2 1 (sU (q2 1) 1 q6.2)) 1 3 1))]) (Wc := [(w_X5 ad (0 + 29) cs (q2 1 1))]) (Wc' := [(w_X5 ad (0 + 29) cs q6.2)]) (is := [2]) (js := [0, 1, 3, 4, 5, 6]) ⟨hx, hb, hml, hown, hts⟩ (k_X5_addBicycle l dC dI cs ad (0 + 29) H2.size (q2 1 1) p1 q6.1 q6.2 gq6) (cwV 1 hts gX10_bicycle_X5_addBicycle rfl rfl rfl cd_X5_addBicycle ⟨Nat.le_of_ble_eq_true rfl, Nat.le_of_ble_eq_true rfl⟩) hK hP hD hS hA ⟨rfl, rfl, rfl, rfl, rfl, rfl⟩ (jn_nd (is := [2]) hD rfl rfl) 29 4 rfl rfl rfl rfl rfl hl.1 (Nat.le_of_ble_eq_true rfl) dX10_bicycle_6 (fun H6 locs6 hP' hD' hS' => ?_)
  replace hS := hS'
  have hP' : va_P (dC, dI) vwCl (fl [(w_X10 ad (0) cs en (sU q2 1 (sU (q2 1) 1 q6.2)))]) H6 := hP'
  have hD' : va_D A (fl [(w_X10 ad (0) cs en (sU q2 1 (sU (q2 1) 1 q6.2)))]) := hD'
  replace hR := bn_e hR
  obtain ⟨S1_6, eS1_6, hR⟩ := hR
  replace hP : va_P (dC, dI) vwCl (fl [(w_X10 ad (0) cs en S1_6)]) H6 := by rw [eS1_6]; exact hP'
  replace hD : va_D A (fl [(w_X10 ad (0) cs en S1_6)]) := by rw [eS1_6]; exact hD'
  clear hP' hD' hS'
  replace hR := bd_e hR
  obtain ⟨q9, gq9, hR⟩ := hR
  refine cl_Vi (As := [.int q6.1]) (rest := []) (L := [(w_X10 ad (0) cs en S1_6)]) (L' := [(w_X10 ad (0) cs en q9.2)]) (Wc := [(w_X10 ad (0) cs en S1_6)]) (Wc' := [(w_X10 ad (0) cs en q9.2)]) (is := [0]) (js := []) ⟨hx, hb, hml, hown, hts⟩ (k_X10_settle l dC dI cs ad en H6.size S1_6 q6.1 q9.1 q9.2 gq9) (cwV 1 hts gX10_bicycle_X10_settle rfl rfl rfl cd_X10_settle ⟨Nat.le_of_ble_eq_true rfl, Nat.le_of_ble_eq_true rfl⟩) hK hP hD hS hA ⟨rfl, rfl, rfl, rfl, rfl, rfl⟩ (jn_nd (is := [0]) hD rfl rfl) 0 8 rfl rfl rfl rfl rfl hl.1 (Nat.le_of_ble_eq_true rfl) dX10_bicycle_9 (fun H9 locs9 hP' hD' hS' => ?_)
  replace hS := hS'
  replace hP : va_P (dC, dI) vwCl (fl [(w_X10 ad (0) cs en q9.2)]) H9 := hP'
  replace hD : va_D A (fl [(w_X10 ad (0) cs en q9.2)]) := hD'
  clear hP' hD' hS'
  replace hR := Option.some.inj hR
  obtain ⟨e9, hR⟩ := Prod.mk.inj hR
  have eu1 := hR
  replace hP : va_P (dC, dI) vwCl (fl [(w_X10 ad (0) cs en u1)]) H9 := by rw [← eu1]; exact hP
  replace hD : va_D A (fl [(w_X10 ad (0) cs en u1)]) := by rw [← eu1]; exact hD
  exact W.iret hx hb hr (fun t ht hW => ⟨⟨_, (), rfl, e9, by rw [ht]; exact hP, va_K.moved hW.alike hK, hD⟩, hS.F ht⟩) hS.2.2 dX10_bicycle_12
set_option maxHeartbeats 8000000 in
set_option maxRecDepth 100000 in
theorem k_X10_rider (l : Launch) (dC : Nat → ClassId) (dI : Nat → Nat → Nat) (cs : Nat → ClassId) (ad : Nat → Nat) (en : Nat → Nat) (sz : Nat) (S1 : T5) (r : Int32) (u1 : T5) (hR : fX10_rider S1 = some (r, u1)) : Met l yX10_rider wsX10_rider ({ frames := 5, cells := 0, slots := 0, locals := 115 } : Room) (va_Pc [.ref (ad 0)] (pW dC dI (tyL cs) (fl [(w_X10 ad (0) cs en S1)]) sz)) (QI dC dI (tyL cs) (va_A (fl [(w_X10 ad (0) cs en S1)]) sz) (fl [(w_X10 ad (0) cs en u1)]) r) 0 0 (va_A (fl [(w_X10 ad (0) cs en S1)]) sz) := by
  refine mt_of (own := RX10) (cc := cX10_rider) (maxL := 1) (ret := (some .int)) (Qc := fun A => QI dC dI (tyL cs) A (fl [(w_X10 ad (0) cs en u1)]) r) rfl (by decide) rfl (Nat.le_of_ble_eq_true rfl) (fun p e s m below meth c A ls hsz hx hb hr hts hown hlocks hml hA hK hP hD hS hl => ?_)
  subst hsz
  have hl : lv_has ls 1 [(0, .ref (ad 0))] := hl
  refine lv_aload_n hx hb dX10_rider_0 rfl (lv_at hl 0 rfl) ?_
  refine lv_aload_n hx hb dX10_rider_1 rfl (lv_at hl 0 rfl) ?_
  replace hR := bd_e hR
  obtain ⟨q2, gq2, hR⟩ := hR
  refine cl_Va (As := []) (rest := [.ref (ad 0)]) (L := [(w_X10 ad (0) cs en S1)]) (L' := [(w_X10 ad (0) cs en q2)]) (Wc := [(w_X10 ad (0) cs en S1)]) (Wc' := [(w_X10 ad (0) cs en q2)]) (is := [0]) (js := []) ⟨hx, hb, hml, hown, hts⟩ (k_X10_freshDraft l dC dI cs ad en s.heap.size S1 q2 gq2) (cwV 0 hts gX10_rider_X10_freshDraft rfl rfl rfl cd_X10_freshDraft ⟨Nat.le_of_ble_eq_true rfl, Nat.le_of_ble_eq_true rfl⟩) hK hP hD hS hA ⟨rfl, rfl, rfl, rfl, rfl, rfl⟩ (jn_nd (is := [0]) hD rfl rfl) 0 8 rfl rfl rfl rfl rfl hl.1 (Nat.le_of_ble_eq_true rfl) dX10_rider_2 (fun H2 locs2 hP' hD' hS' => ?_)
  replace hS := hS'
  replace hP : va_P (dC, dI) vwCl (fl [(w_X10 ad (0) cs en q2)]) H2 := hP'
  replace hD : va_D A (fl [(w_X10 ad (0) cs en q2)]) := hD'
  clear hP' hD' hS'
  replace hR := bd_e hR
  obtain ⟨q5, gq5, hR⟩ := hR
  replace hP : va_P (dC, dI) vwCl (fl [[((ad 0), .inr (8, [.ref (ad (0 + 1)), .ref (ad (0 + 29)), .ref (ad (0 + 57)), .int (q2 1 3 2 0 0), .ref (ad (0 + 85)), .ref (ad (0 + 199)), .ref (ad (0 + 202))]))], (w_X5 ad (0 + 1) cs (q2 1 0)), (w_X5 ad (0 + 29) cs (q2 1 1)), (w_X5 ad (0 + 57) cs (q2 1 2)), (w_X3 ad (0 + 85) cs (q2 0)), (w_X2 ad (0 + 199) cs (q2 1 3 0)), (w_X7 ad (0 + 202) cs en (q2 1 3 1))]) H2 := hP
  replace hD : va_D A (fl [[((ad 0), .inr (8, [.ref (ad (0 + 1)), .ref (ad (0 + 29)), .ref (ad (0 + 57)), .int (q2 1 3 2 0 0), .ref (ad (0 + 85)), .ref (ad (0 + 199)), .ref (ad (0 + 202))]))], (w_X5 ad (0 + 1) cs (q2 1 0)), (w_X5 ad (0 + 29) cs (q2 1 1)), (w_X5 ad (0 + 57) cs (q2 1 2)), (w_X3 ad (0 + 85) cs (q2 0)), (w_X2 ad (0 + 199) cs (q2 1 3 0)), (w_X7 ad (0 + 202) cs en (q2 1 3 1))]) := hD
  refine cl_Vi (As := []) (rest := [.ref (ad 0)]) (L := [[((ad 0), .inr (8, [.ref (ad (0 + 1)), .ref (ad (0 + 29)), .ref (ad (0 + 57)), .int (q2 1 3 2 0 0), .ref (ad (0 + 85)), .ref (ad (0 + 199)), .ref (ad (0 + 202))]))], (w_X5 ad (0 + 1) cs (q2 1 0)), (w_X5 ad (0 + 29) cs (q2 1 1)), (w_X5 ad (0 + 57) cs (q2 1 2)), (w_X3 ad (0 + 85) cs (q2 0)), (w_X2 ad (0 + 199) cs (q2 1 3 0)), (w_X7 ad (0 + 202) cs en (q2 1 3 1))]) (L' := [[((ad 0), .inr (8, [.ref (ad (0 + 1)), .ref (ad (0 + 29)), .ref (ad (0 + 57)), .int ((sU q2 1 (sU (q2 1) 1 q5.2)) 1 3 2 0 0), .ref (ad (0 + 85)), .ref (ad (0 + 199)), .ref (ad (0 + 202))]))], (w_X5 ad (0 + 1) cs ((sU q2 1 (sU (q2 1) 1 q5.2)) 1 0)), (w_X5 ad (0 + 29) cs ((sU q2 1 (sU (q2 1) 1 q5.2)) 1 1)), (w_X5 ad (0 + 57) cs ((sU q2 1 (sU (q2 1) 1 q5.2)) 1 2)), (w_X3 ad (0 + 85) cs ((sU q2 1 (sU (q2 1) 1 q5.2)) 0)), (w_X2 ad (0 + 199) cs ((sU q2 1 (sU (q2 1) 1 q5.2)) 1 3 0)), (w_X7 ad (0 + 202) cs en ((sU q2 1 (sU (q2 1) 1 q5.2)) 1 3 1))]) (Wc := [(w_X5 ad (0 + 29) cs (q2 1 1))]) (Wc' := [(w_X5 ad (0 + 29) cs q5.2)]) (is := [2]) (js := [0, 1, 3, 4, 5, 6]) ⟨hx, hb, hml, hown, hts⟩ (k_X5_addRider l dC dI cs ad (0 + 29) H2.size (q2 1 1) q5.1 q5.2 gq5) (cwV 0 hts gX10_rider_X5_addRider rfl rfl rfl cd_X5_addRider ⟨Nat.le_of_ble_eq_true rfl, Nat.le_of_ble_eq_true rfl⟩) hK hP hD hS hA ⟨rfl, rfl, rfl, rfl, rfl, rfl⟩ (jn_nd (is := [2]) hD rfl rfl) 29 4 rfl rfl rfl rfl rfl hl.1 (Nat.le_of_ble_eq_true rfl) dX10_rider_5 (fun H5 locs5 hP' hD' hS' => ?_)
  replace hS := hS'
  have hP' : va_P (dC, dI) vwCl (fl [(w_X10 ad (0) cs en (sU q2 1 (sU (q2 1) 1 q5.2)))]) H5 := hP'
  have hD' : va_D A (fl [(w_X10 ad (0) cs en (sU q2 1 (sU (q2 1) 1 q5.2)))]) := hD'
  replace hR := bn_e hR
  obtain ⟨S1_5, eS1_5, hR⟩ := hR
  replace hP : va_P (dC, dI) vwCl (fl [(w_X10 ad (0) cs en S1_5)]) H5 := by rw [eS1_5]; exact hP'
  replace hD : va_D A (fl [(w_X10 ad (0) cs en S1_5)]) := by rw [eS1_5]; exact hD'
  clear hP' hD' hS'
  replace hR := bd_e hR
  obtain ⟨q8, gq8, hR⟩ := hR
  refine cl_Vi (As := [.int q5.1]) (rest := []) (L := [(w_X10 ad (0) cs en S1_5)]) (L' := [(w_X10 ad (0) cs en q8.2)]) (Wc := [(w_X10 ad (0) cs en S1_5)]) (Wc' := [(w_X10 ad (0) cs en q8.2)]) (is := [0]) (js := []) ⟨hx, hb, hml, hown, hts⟩ (k_X10_settle l dC dI cs ad en H5.size S1_5 q5.1 q8.1 q8.2 gq8) (cwV 1 hts gX10_rider_X10_settle rfl rfl rfl cd_X10_settle ⟨Nat.le_of_ble_eq_true rfl, Nat.le_of_ble_eq_true rfl⟩) hK hP hD hS hA ⟨rfl, rfl, rfl, rfl, rfl, rfl⟩ (jn_nd (is := [0]) hD rfl rfl) 0 8 rfl rfl rfl rfl rfl hl.1 (Nat.le_of_ble_eq_true rfl) dX10_rider_8 (fun H8 locs8 hP' hD' hS' => ?_)
  replace hS := hS'
  replace hP : va_P (dC, dI) vwCl (fl [(w_X10 ad (0) cs en q8.2)]) H8 := hP'
  replace hD : va_D A (fl [(w_X10 ad (0) cs en q8.2)]) := hD'
  clear hP' hD' hS'
  replace hR := Option.some.inj hR
  obtain ⟨e9, hR⟩ := Prod.mk.inj hR
  have eu1 := hR
  replace hP : va_P (dC, dI) vwCl (fl [(w_X10 ad (0) cs en u1)]) H8 := by rw [← eu1]; exact hP
  replace hD : va_D A (fl [(w_X10 ad (0) cs en u1)]) := by rw [← eu1]; exact hD
  exact W.iret hx hb hr (fun t ht hW => ⟨⟨_, (), rfl, e9, by rw [ht]; exact hP, va_K.moved hW.alike hK, hD⟩, hS.F ht⟩) hS.2.2 dX10_rider_11
set_option maxHeartbeats 8000000 in
set_option maxRecDepth 100000 in
theorem k_X10_van (l : Launch) (dC : Nat → ClassId) (dI : Nat → Nat → Nat) (cs : Nat → ClassId) (ad : Nat → Nat) (en : Nat → Nat) (sz : Nat) (S1 : T5) (p1 : Int32) (p2 : Int32) (r : Int32) (u1 : T5) (hR : fX10_van S1 p1 p2 = some (r, u1)) : Met l yX10_van wsX10_van ({ frames := 5, cells := 0, slots := 0, locals := 115 } : Room) (va_Pc [.ref (ad 0), .int p1, .int p2] (pW dC dI (tyL cs) (fl [(w_X10 ad (0) cs en S1)]) sz)) (QI dC dI (tyL cs) (va_A (fl [(w_X10 ad (0) cs en S1)]) sz) (fl [(w_X10 ad (0) cs en u1)]) r) 0 0 (va_A (fl [(w_X10 ad (0) cs en S1)]) sz) := by
  refine mt_of (own := RX10) (cc := cX10_van) (maxL := 3) (ret := (some .int)) (Qc := fun A => QI dC dI (tyL cs) A (fl [(w_X10 ad (0) cs en u1)]) r) rfl (by decide) rfl (Nat.le_of_ble_eq_true rfl) (fun p e s m below meth c A ls hsz hx hb hr hts hown hlocks hml hA hK hP hD hS hl => ?_)
  subst hsz
  have hl : lv_has ls 3 [(0, .ref (ad 0)), (1, .int p1), (2, .int p2)] := hl
  refine lv_aload_n hx hb dX10_van_0 rfl (lv_at hl 0 rfl) ?_
  refine lv_aload_n hx hb dX10_van_1 rfl (lv_at hl 0 rfl) ?_
  replace hR := bd_e hR
  obtain ⟨q2, gq2, hR⟩ := hR
  refine cl_Va (As := []) (rest := [.ref (ad 0)]) (L := [(w_X10 ad (0) cs en S1)]) (L' := [(w_X10 ad (0) cs en q2)]) (Wc := [(w_X10 ad (0) cs en S1)]) (Wc' := [(w_X10 ad (0) cs en q2)]) (is := [0]) (js := []) ⟨hx, hb, hml, hown, hts⟩ (k_X10_freshDraft l dC dI cs ad en s.heap.size S1 q2 gq2) (cwV 0 hts gX10_van_X10_freshDraft rfl rfl rfl cd_X10_freshDraft ⟨Nat.le_of_ble_eq_true rfl, Nat.le_of_ble_eq_true rfl⟩) hK hP hD hS hA ⟨rfl, rfl, rfl, rfl, rfl, rfl⟩ (jn_nd (is := [0]) hD rfl rfl) 0 8 rfl rfl rfl rfl rfl hl.1 (Nat.le_of_ble_eq_true rfl) dX10_van_2 (fun H2 locs2 hP' hD' hS' => ?_)
  replace hS := hS'
  replace hP : va_P (dC, dI) vwCl (fl [(w_X10 ad (0) cs en q2)]) H2 := hP'
  replace hD : va_D A (fl [(w_X10 ad (0) cs en q2)]) := hD'
  clear hP' hD' hS'
  refine lv_iload_n hx hb dX10_van_5 rfl (lv_at hl 1 rfl) ?_
  refine lv_iload_n hx hb dX10_van_6 rfl (lv_at hl 2 rfl) ?_
  replace hR := bd_e hR
  obtain ⟨q7, gq7, hR⟩ := hR
  replace hP : va_P (dC, dI) vwCl (fl [[((ad 0), .inr (8, [.ref (ad (0 + 1)), .ref (ad (0 + 29)), .ref (ad (0 + 57)), .int (q2 1 3 2 0 0), .ref (ad (0 + 85)), .ref (ad (0 + 199)), .ref (ad (0 + 202))]))], (w_X5 ad (0 + 1) cs (q2 1 0)), (w_X5 ad (0 + 29) cs (q2 1 1)), (w_X5 ad (0 + 57) cs (q2 1 2)), (w_X3 ad (0 + 85) cs (q2 0)), (w_X2 ad (0 + 199) cs (q2 1 3 0)), (w_X7 ad (0 + 202) cs en (q2 1 3 1))]) H2 := hP
  replace hD : va_D A (fl [[((ad 0), .inr (8, [.ref (ad (0 + 1)), .ref (ad (0 + 29)), .ref (ad (0 + 57)), .int (q2 1 3 2 0 0), .ref (ad (0 + 85)), .ref (ad (0 + 199)), .ref (ad (0 + 202))]))], (w_X5 ad (0 + 1) cs (q2 1 0)), (w_X5 ad (0 + 29) cs (q2 1 1)), (w_X5 ad (0 + 57) cs (q2 1 2)), (w_X3 ad (0 + 85) cs (q2 0)), (w_X2 ad (0 + 199) cs (q2 1 3 0)), (w_X7 ad (0 + 202) cs en (q2 1 3 1))]) := hD
  refine cl_Vi (As := [.int p1, .int p2]) (rest := [.ref (ad 0)]) (L := [[((ad 0), .inr (8, [.ref (ad (0 + 1)), .ref (ad (0 + 29)), .ref (ad (0 + 57)), .int (q2 1 3 2 0 0), .ref (ad (0 + 85)), .ref (ad (0 + 199)), .ref (ad (0 + 202))]))], (w_X5 ad (0 + 1) cs (q2 1 0)), (w_X5 ad (0 + 29) cs (q2 1 1)), (w_X5 ad (0 + 57) cs (q2 1 2)), (w_X3 ad (0 + 85) cs (q2 0)), (w_X2 ad (0 + 199) cs (q2 1 3 0)), (w_X7 ad (0 + 202) cs en (q2 1 3 1))]) (L' := [[((ad 0), .inr (8, [.ref (ad (0 + 1)), .ref (ad (0 + 29)), .ref (ad (0 + 57)), .int ((sU q2 1 (sU (q2 1) 1 q7.2)) 1 3 2 0 0), .ref (ad (0 + 85)), .ref (ad (0 + 199)), .ref (ad (0 + 202))]))], (w_X5 ad (0 + 1) cs ((sU q2 1 (sU (q2 1) 1 q7.2)) 1 0)), (w_X5 ad (0 + 29) cs ((sU q2 1 (sU (q2 1) 1 q7.2)) 1 1)), (w_X5 ad (0 + 57) cs ((sU q2 1 (sU (q2 1) 1 q7.2)) 1 2)), (w_X3 ad (0 + 85) cs ((sU q2 1 (sU (q2 1) 1 q7.2)) 0)), (w_X2 ad (0 + 199) cs ((sU q2 1 (sU (q2 1) 1 q7.2)) 1 3 0)), (w_X7 ad (0 + 202) cs en ((sU q2 1 (sU (q2 1) 1 q7.2)) 1 3 1))]) (Wc := [(w_X5 ad (0 + 29) cs (q2 1 1))]) (Wc' := [(w_X5 ad (0 + 29) cs q7.2)]) (is := [2]) (js := [0, 1, 3, 4, 5, 6]) ⟨hx, hb, hml, hown, hts⟩ (k_X5_addVan l dC dI cs ad (0 + 29) H2.size (q2 1 1) p1 p2 q7.1 q7.2 gq7) (cwV 2 hts gX10_van_X5_addVan rfl rfl rfl cd_X5_addVan ⟨Nat.le_of_ble_eq_true rfl, Nat.le_of_ble_eq_true rfl⟩) hK hP hD hS hA ⟨rfl, rfl, rfl, rfl, rfl, rfl⟩ (jn_nd (is := [2]) hD rfl rfl) 29 4 rfl rfl rfl rfl rfl hl.1 (Nat.le_of_ble_eq_true rfl) dX10_van_7 (fun H7 locs7 hP' hD' hS' => ?_)
  replace hS := hS'
  have hP' : va_P (dC, dI) vwCl (fl [(w_X10 ad (0) cs en (sU q2 1 (sU (q2 1) 1 q7.2)))]) H7 := hP'
  have hD' : va_D A (fl [(w_X10 ad (0) cs en (sU q2 1 (sU (q2 1) 1 q7.2)))]) := hD'
  replace hR := bn_e hR
  obtain ⟨S1_7, eS1_7, hR⟩ := hR
  replace hP : va_P (dC, dI) vwCl (fl [(w_X10 ad (0) cs en S1_7)]) H7 := by rw [eS1_7]; exact hP'
  replace hD : va_D A (fl [(w_X10 ad (0) cs en S1_7)]) := by rw [eS1_7]; exact hD'
  clear hP' hD' hS'
  replace hR := bd_e hR
  obtain ⟨q10, gq10, hR⟩ := hR
  refine cl_Vi (As := [.int q7.1]) (rest := []) (L := [(w_X10 ad (0) cs en S1_7)]) (L' := [(w_X10 ad (0) cs en q10.2)]) (Wc := [(w_X10 ad (0) cs en S1_7)]) (Wc' := [(w_X10 ad (0) cs en q10.2)]) (is := [0]) (js := []) ⟨hx, hb, hml, hown, hts⟩ (k_X10_settle l dC dI cs ad en H7.size S1_7 q7.1 q10.1 q10.2 gq10) (cwV 1 hts gX10_van_X10_settle rfl rfl rfl cd_X10_settle ⟨Nat.le_of_ble_eq_true rfl, Nat.le_of_ble_eq_true rfl⟩) hK hP hD hS hA ⟨rfl, rfl, rfl, rfl, rfl, rfl⟩ (jn_nd (is := [0]) hD rfl rfl) 0 8 rfl rfl rfl rfl rfl hl.1 (Nat.le_of_ble_eq_true rfl) dX10_van_10 (fun H10 locs10 hP' hD' hS' => ?_)
  replace hS := hS'
  replace hP : va_P (dC, dI) vwCl (fl [(w_X10 ad (0) cs en q10.2)]) H10 := hP'
  replace hD : va_D A (fl [(w_X10 ad (0) cs en q10.2)]) := hD'
  clear hP' hD' hS'
  replace hR := Option.some.inj hR
  obtain ⟨e9, hR⟩ := Prod.mk.inj hR
  have eu1 := hR
  replace hP : va_P (dC, dI) vwCl (fl [(w_X10 ad (0) cs en u1)]) H10 := by rw [← eu1]; exact hP
  replace hD : va_D A (fl [(w_X10 ad (0) cs en u1)]) := by rw [← eu1]; exact hD
  exact W.iret hx hb hr (fun t ht hW => ⟨⟨_, (), rfl, e9, by rw [ht]; exact hP, va_K.moved hW.alike hK, hD⟩, hS.F ht⟩) hS.2.2 dX10_van_13
set_option maxHeartbeats 8000000 in
set_option maxRecDepth 100000 in
theorem k_X10_pass (l : Launch) (dC : Nat → ClassId) (dI : Nat → Nat → Nat) (cs : Nat → ClassId) (ad : Nat → Nat) (en : Nat → Nat) (sz : Nat) (S1 : T5) (p1 : Int32) (r : Int32) (u1 : T5) (hR : fX10_pass S1 p1 = some (r, u1)) : Met l yX10_pass wsX10_pass ({ frames := 5, cells := 0, slots := 0, locals := 115 } : Room) (va_Pc [.ref (ad 0), .int p1] (pW dC dI (tyL cs) (fl [(w_X10 ad (0) cs en S1)]) sz)) (QI dC dI (tyL cs) (va_A (fl [(w_X10 ad (0) cs en S1)]) sz) (fl [(w_X10 ad (0) cs en u1)]) r) 0 0 (va_A (fl [(w_X10 ad (0) cs en S1)]) sz) := by
  refine mt_of (own := RX10) (cc := cX10_pass) (maxL := 2) (ret := (some .int)) (Qc := fun A => QI dC dI (tyL cs) A (fl [(w_X10 ad (0) cs en u1)]) r) rfl (by decide) rfl (Nat.le_of_ble_eq_true rfl) (fun p e s m below meth c A ls hsz hx hb hr hts hown hlocks hml hA hK hP hD hS hl => ?_)
  subst hsz
  have hl : lv_has ls 2 [(0, .ref (ad 0)), (1, .int p1)] := hl
  refine lv_aload_n hx hb dX10_pass_0 rfl (lv_at hl 0 rfl) ?_
  refine lv_aload_n hx hb dX10_pass_1 rfl (lv_at hl 0 rfl) ?_
  replace hR := bd_e hR
  obtain ⟨q2, gq2, hR⟩ := hR
  refine cl_Va (As := []) (rest := [.ref (ad 0)]) (L := [(w_X10 ad (0) cs en S1)]) (L' := [(w_X10 ad (0) cs en q2)]) (Wc := [(w_X10 ad (0) cs en S1)]) (Wc' := [(w_X10 ad (0) cs en q2)]) (is := [0]) (js := []) ⟨hx, hb, hml, hown, hts⟩ (k_X10_freshDraft l dC dI cs ad en s.heap.size S1 q2 gq2) (cwV 0 hts gX10_pass_X10_freshDraft rfl rfl rfl cd_X10_freshDraft ⟨Nat.le_of_ble_eq_true rfl, Nat.le_of_ble_eq_true rfl⟩) hK hP hD hS hA ⟨rfl, rfl, rfl, rfl, rfl, rfl⟩ (jn_nd (is := [0]) hD rfl rfl) 0 8 rfl rfl rfl rfl rfl hl.1 (Nat.le_of_ble_eq_true rfl) dX10_pass_2 (fun H2 locs2 hP' hD' hS' => ?_)
  replace hS := hS'
  replace hP : va_P (dC, dI) vwCl (fl [(w_X10 ad (0) cs en q2)]) H2 := hP'
  replace hD : va_D A (fl [(w_X10 ad (0) cs en q2)]) := hD'
  clear hP' hD' hS'
  refine lv_iload_n hx hb dX10_pass_5 rfl (lv_at hl 1 rfl) ?_
  replace hR := bd_e hR
  obtain ⟨q6, gq6, hR⟩ := hR
  replace hP : va_P (dC, dI) vwCl (fl [[((ad 0), .inr (8, [.ref (ad (0 + 1)), .ref (ad (0 + 29)), .ref (ad (0 + 57)), .int (q2 1 3 2 0 0), .ref (ad (0 + 85)), .ref (ad (0 + 199)), .ref (ad (0 + 202))]))], (w_X5 ad (0 + 1) cs (q2 1 0)), (w_X5 ad (0 + 29) cs (q2 1 1)), (w_X5 ad (0 + 57) cs (q2 1 2)), (w_X3 ad (0 + 85) cs (q2 0)), (w_X2 ad (0 + 199) cs (q2 1 3 0)), (w_X7 ad (0 + 202) cs en (q2 1 3 1))]) H2 := hP
  replace hD : va_D A (fl [[((ad 0), .inr (8, [.ref (ad (0 + 1)), .ref (ad (0 + 29)), .ref (ad (0 + 57)), .int (q2 1 3 2 0 0), .ref (ad (0 + 85)), .ref (ad (0 + 199)), .ref (ad (0 + 202))]))], (w_X5 ad (0 + 1) cs (q2 1 0)), (w_X5 ad (0 + 29) cs (q2 1 1)), (w_X5 ad (0 + 57) cs (q2 1 2)), (w_X3 ad (0 + 85) cs (q2 0)), (w_X2 ad (0 + 199) cs (q2 1 3 0)), (w_X7 ad (0 + 202) cs en (q2 1 3 1))]) := hD
  refine cl_Vi (As := [.int p1]) (rest := [.ref (ad 0)]) (L := [[((ad 0), .inr (8, [.ref (ad (0 + 1)), .ref (ad (0 + 29)), .ref (ad (0 + 57)), .int (q2 1 3 2 0 0), .ref (ad (0 + 85)), .ref (ad (0 + 199)), .ref (ad (0 + 202))]))], (w_X5 ad (0 + 1) cs (q2 1 0)), (w_X5 ad (0 + 29) cs (q2 1 1)), (w_X5 ad (0 + 57) cs (q2 1 2)), (w_X3 ad (0 + 85) cs (q2 0)), (w_X2 ad (0 + 199) cs (q2 1 3 0)), (w_X7 ad (0 + 202) cs en (q2 1 3 1))]) (L' := [[((ad 0), .inr (8, [.ref (ad (0 + 1)), .ref (ad (0 + 29)), .ref (ad (0 + 57)), .int ((sU q2 1 (sU (q2 1) 1 q6.2)) 1 3 2 0 0), .ref (ad (0 + 85)), .ref (ad (0 + 199)), .ref (ad (0 + 202))]))], (w_X5 ad (0 + 1) cs ((sU q2 1 (sU (q2 1) 1 q6.2)) 1 0)), (w_X5 ad (0 + 29) cs ((sU q2 1 (sU (q2 1) 1 q6.2)) 1 1)), (w_X5 ad (0 + 57) cs ((sU q2 1 (sU (q2 1) 1 q6.2)) 1 2)), (w_X3 ad (0 + 85) cs ((sU q2 1 (sU (q2 1) 1 q6.2)) 0)), (w_X2 ad (0 + 199) cs ((sU q2 1 (sU (q2 1) 1 q6.2)) 1 3 0)), (w_X7 ad (0 + 202) cs en ((sU q2 1 (sU (q2 1) 1 q6.2)) 1 3 1))]) (Wc := [(w_X5 ad (0 + 29) cs (q2 1 1))]) (Wc' := [(w_X5 ad (0 + 29) cs q6.2)]) (is := [2]) (js := [0, 1, 3, 4, 5, 6]) ⟨hx, hb, hml, hown, hts⟩ (k_X5_sellPass l dC dI cs ad (0 + 29) H2.size (q2 1 1) p1 q6.1 q6.2 gq6) (cwV 1 hts gX10_pass_X5_sellPass rfl rfl rfl cd_X5_sellPass ⟨Nat.le_of_ble_eq_true rfl, Nat.le_of_ble_eq_true rfl⟩) hK hP hD hS hA ⟨rfl, rfl, rfl, rfl, rfl, rfl⟩ (jn_nd (is := [2]) hD rfl rfl) 29 4 rfl rfl rfl rfl rfl hl.1 (Nat.le_of_ble_eq_true rfl) dX10_pass_6 (fun H6 locs6 hP' hD' hS' => ?_)
  replace hS := hS'
  have hP' : va_P (dC, dI) vwCl (fl [(w_X10 ad (0) cs en (sU q2 1 (sU (q2 1) 1 q6.2)))]) H6 := hP'
  have hD' : va_D A (fl [(w_X10 ad (0) cs en (sU q2 1 (sU (q2 1) 1 q6.2)))]) := hD'
  replace hR := bn_e hR
  obtain ⟨S1_6, eS1_6, hR⟩ := hR
  replace hP : va_P (dC, dI) vwCl (fl [(w_X10 ad (0) cs en S1_6)]) H6 := by rw [eS1_6]; exact hP'
  replace hD : va_D A (fl [(w_X10 ad (0) cs en S1_6)]) := by rw [eS1_6]; exact hD'
  clear hP' hD' hS'
  replace hR := bd_e hR
  obtain ⟨q9, gq9, hR⟩ := hR
  refine cl_Vi (As := [.int q6.1]) (rest := []) (L := [(w_X10 ad (0) cs en S1_6)]) (L' := [(w_X10 ad (0) cs en q9.2)]) (Wc := [(w_X10 ad (0) cs en S1_6)]) (Wc' := [(w_X10 ad (0) cs en q9.2)]) (is := [0]) (js := []) ⟨hx, hb, hml, hown, hts⟩ (k_X10_settle l dC dI cs ad en H6.size S1_6 q6.1 q9.1 q9.2 gq9) (cwV 1 hts gX10_pass_X10_settle rfl rfl rfl cd_X10_settle ⟨Nat.le_of_ble_eq_true rfl, Nat.le_of_ble_eq_true rfl⟩) hK hP hD hS hA ⟨rfl, rfl, rfl, rfl, rfl, rfl⟩ (jn_nd (is := [0]) hD rfl rfl) 0 8 rfl rfl rfl rfl rfl hl.1 (Nat.le_of_ble_eq_true rfl) dX10_pass_9 (fun H9 locs9 hP' hD' hS' => ?_)
  replace hS := hS'
  replace hP : va_P (dC, dI) vwCl (fl [(w_X10 ad (0) cs en q9.2)]) H9 := hP'
  replace hD : va_D A (fl [(w_X10 ad (0) cs en q9.2)]) := hD'
  clear hP' hD' hS'
  replace hR := Option.some.inj hR
  obtain ⟨e9, hR⟩ := Prod.mk.inj hR
  have eu1 := hR
  replace hP : va_P (dC, dI) vwCl (fl [(w_X10 ad (0) cs en u1)]) H9 := by rw [← eu1]; exact hP
  replace hD : va_D A (fl [(w_X10 ad (0) cs en u1)]) := by rw [← eu1]; exact hD
  exact W.iret hx hb hr (fun t ht hW => ⟨⟨_, (), rfl, e9, by rw [ht]; exact hP, va_K.moved hW.alike hK, hD⟩, hS.F ht⟩) hS.2.2 dX10_pass_12
set_option maxHeartbeats 8000000 in
set_option maxRecDepth 100000 in
theorem k_X10_rent (l : Launch) (dC : Nat → ClassId) (dI : Nat → Nat → Nat) (cs : Nat → ClassId) (ad : Nat → Nat) (en : Nat → Nat) (sz : Nat) (S1 : T5) (p1 : Int32) (p2 : Int32) (r : Int32) (u1 : T5) (hR : fX10_rent S1 p1 p2 = some (r, u1)) : Met l yX10_rent wsX10_rent ({ frames := 5, cells := 0, slots := 0, locals := 115 } : Room) (va_Pc [.ref (ad 0), .int p1, .int p2] (pW dC dI (tyL cs) (fl [(w_X10 ad (0) cs en S1)]) sz)) (QI dC dI (tyL cs) (va_A (fl [(w_X10 ad (0) cs en S1)]) sz) (fl [(w_X10 ad (0) cs en u1)]) r) 0 0 (va_A (fl [(w_X10 ad (0) cs en S1)]) sz) := by
  refine mt_of (own := RX10) (cc := cX10_rent) (maxL := 3) (ret := (some .int)) (Qc := fun A => QI dC dI (tyL cs) A (fl [(w_X10 ad (0) cs en u1)]) r) rfl (by decide) rfl (Nat.le_of_ble_eq_true rfl) (fun p e s m below meth c A ls hsz hx hb hr hts hown hlocks hml hA hK hP hD hS hl => ?_)
  subst hsz
  have hl : lv_has ls 3 [(0, .ref (ad 0)), (1, .int p1), (2, .int p2)] := hl
  refine lv_aload_n hx hb dX10_rent_0 rfl (lv_at hl 0 rfl) ?_
  refine lv_aload_n hx hb dX10_rent_1 rfl (lv_at hl 0 rfl) ?_
  replace hR := bd_e hR
  obtain ⟨q2, gq2, hR⟩ := hR
  refine cl_Va (As := []) (rest := [.ref (ad 0)]) (L := [(w_X10 ad (0) cs en S1)]) (L' := [(w_X10 ad (0) cs en q2)]) (Wc := [(w_X10 ad (0) cs en S1)]) (Wc' := [(w_X10 ad (0) cs en q2)]) (is := [0]) (js := []) ⟨hx, hb, hml, hown, hts⟩ (k_X10_freshDraft l dC dI cs ad en s.heap.size S1 q2 gq2) (cwV 0 hts gX10_rent_X10_freshDraft rfl rfl rfl cd_X10_freshDraft ⟨Nat.le_of_ble_eq_true rfl, Nat.le_of_ble_eq_true rfl⟩) hK hP hD hS hA ⟨rfl, rfl, rfl, rfl, rfl, rfl⟩ (jn_nd (is := [0]) hD rfl rfl) 0 8 rfl rfl rfl rfl rfl hl.1 (Nat.le_of_ble_eq_true rfl) dX10_rent_2 (fun H2 locs2 hP' hD' hS' => ?_)
  replace hS := hS'
  replace hP : va_P (dC, dI) vwCl (fl [(w_X10 ad (0) cs en q2)]) H2 := hP'
  replace hD : va_D A (fl [(w_X10 ad (0) cs en q2)]) := hD'
  clear hP' hD' hS'
  refine lv_iload_n hx hb dX10_rent_5 rfl (lv_at hl 1 rfl) ?_
  refine lv_iload_n hx hb dX10_rent_6 rfl (lv_at hl 2 rfl) ?_
  replace hR := bd_e hR
  obtain ⟨q7, gq7, hR⟩ := hR
  replace hP : va_P (dC, dI) vwCl (fl [[((ad 0), .inr (8, [.ref (ad (0 + 1)), .ref (ad (0 + 29)), .ref (ad (0 + 57)), .int (q2 1 3 2 0 0), .ref (ad (0 + 85)), .ref (ad (0 + 199)), .ref (ad (0 + 202))]))], (w_X5 ad (0 + 1) cs (q2 1 0)), (w_X5 ad (0 + 29) cs (q2 1 1)), (w_X5 ad (0 + 57) cs (q2 1 2)), (w_X3 ad (0 + 85) cs (q2 0)), (w_X2 ad (0 + 199) cs (q2 1 3 0)), (w_X7 ad (0 + 202) cs en (q2 1 3 1))]) H2 := hP
  replace hD : va_D A (fl [[((ad 0), .inr (8, [.ref (ad (0 + 1)), .ref (ad (0 + 29)), .ref (ad (0 + 57)), .int (q2 1 3 2 0 0), .ref (ad (0 + 85)), .ref (ad (0 + 199)), .ref (ad (0 + 202))]))], (w_X5 ad (0 + 1) cs (q2 1 0)), (w_X5 ad (0 + 29) cs (q2 1 1)), (w_X5 ad (0 + 57) cs (q2 1 2)), (w_X3 ad (0 + 85) cs (q2 0)), (w_X2 ad (0 + 199) cs (q2 1 3 0)), (w_X7 ad (0 + 202) cs en (q2 1 3 1))]) := hD
  refine cl_Vi (As := [.int p1, .int p2]) (rest := [.ref (ad 0)]) (L := [[((ad 0), .inr (8, [.ref (ad (0 + 1)), .ref (ad (0 + 29)), .ref (ad (0 + 57)), .int (q2 1 3 2 0 0), .ref (ad (0 + 85)), .ref (ad (0 + 199)), .ref (ad (0 + 202))]))], (w_X5 ad (0 + 1) cs (q2 1 0)), (w_X5 ad (0 + 29) cs (q2 1 1)), (w_X5 ad (0 + 57) cs (q2 1 2)), (w_X3 ad (0 + 85) cs (q2 0)), (w_X2 ad (0 + 199) cs (q2 1 3 0)), (w_X7 ad (0 + 202) cs en (q2 1 3 1))]) (L' := [[((ad 0), .inr (8, [.ref (ad (0 + 1)), .ref (ad (0 + 29)), .ref (ad (0 + 57)), .int ((sU q2 1 (sU (q2 1) 1 q7.2)) 1 3 2 0 0), .ref (ad (0 + 85)), .ref (ad (0 + 199)), .ref (ad (0 + 202))]))], (w_X5 ad (0 + 1) cs ((sU q2 1 (sU (q2 1) 1 q7.2)) 1 0)), (w_X5 ad (0 + 29) cs ((sU q2 1 (sU (q2 1) 1 q7.2)) 1 1)), (w_X5 ad (0 + 57) cs ((sU q2 1 (sU (q2 1) 1 q7.2)) 1 2)), (w_X3 ad (0 + 85) cs ((sU q2 1 (sU (q2 1) 1 q7.2)) 0)), (w_X2 ad (0 + 199) cs ((sU q2 1 (sU (q2 1) 1 q7.2)) 1 3 0)), (w_X7 ad (0 + 202) cs en ((sU q2 1 (sU (q2 1) 1 q7.2)) 1 3 1))]) (Wc := [(w_X5 ad (0 + 29) cs (q2 1 1))]) (Wc' := [(w_X5 ad (0 + 29) cs q7.2)]) (is := [2]) (js := [0, 1, 3, 4, 5, 6]) ⟨hx, hb, hml, hown, hts⟩ (k_X5_beginRide l dC dI cs ad (0 + 29) H2.size (q2 1 1) p1 p2 q7.1 q7.2 gq7) (cwV 2 hts gX10_rent_X5_beginRide rfl rfl rfl cd_X5_beginRide ⟨Nat.le_of_ble_eq_true rfl, Nat.le_of_ble_eq_true rfl⟩) hK hP hD hS hA ⟨rfl, rfl, rfl, rfl, rfl, rfl⟩ (jn_nd (is := [2]) hD rfl rfl) 29 4 rfl rfl rfl rfl rfl hl.1 (Nat.le_of_ble_eq_true rfl) dX10_rent_7 (fun H7 locs7 hP' hD' hS' => ?_)
  replace hS := hS'
  have hP' : va_P (dC, dI) vwCl (fl [(w_X10 ad (0) cs en (sU q2 1 (sU (q2 1) 1 q7.2)))]) H7 := hP'
  have hD' : va_D A (fl [(w_X10 ad (0) cs en (sU q2 1 (sU (q2 1) 1 q7.2)))]) := hD'
  replace hR := bn_e hR
  obtain ⟨S1_7, eS1_7, hR⟩ := hR
  replace hP : va_P (dC, dI) vwCl (fl [(w_X10 ad (0) cs en S1_7)]) H7 := by rw [eS1_7]; exact hP'
  replace hD : va_D A (fl [(w_X10 ad (0) cs en S1_7)]) := by rw [eS1_7]; exact hD'
  clear hP' hD' hS'
  replace hR := bd_e hR
  obtain ⟨q10, gq10, hR⟩ := hR
  refine cl_Vi (As := [.int q7.1]) (rest := []) (L := [(w_X10 ad (0) cs en S1_7)]) (L' := [(w_X10 ad (0) cs en q10.2)]) (Wc := [(w_X10 ad (0) cs en S1_7)]) (Wc' := [(w_X10 ad (0) cs en q10.2)]) (is := [0]) (js := []) ⟨hx, hb, hml, hown, hts⟩ (k_X10_settle l dC dI cs ad en H7.size S1_7 q7.1 q10.1 q10.2 gq10) (cwV 1 hts gX10_rent_X10_settle rfl rfl rfl cd_X10_settle ⟨Nat.le_of_ble_eq_true rfl, Nat.le_of_ble_eq_true rfl⟩) hK hP hD hS hA ⟨rfl, rfl, rfl, rfl, rfl, rfl⟩ (jn_nd (is := [0]) hD rfl rfl) 0 8 rfl rfl rfl rfl rfl hl.1 (Nat.le_of_ble_eq_true rfl) dX10_rent_10 (fun H10 locs10 hP' hD' hS' => ?_)
  replace hS := hS'
  replace hP : va_P (dC, dI) vwCl (fl [(w_X10 ad (0) cs en q10.2)]) H10 := hP'
  replace hD : va_D A (fl [(w_X10 ad (0) cs en q10.2)]) := hD'
  clear hP' hD' hS'
  replace hR := Option.some.inj hR
  obtain ⟨e9, hR⟩ := Prod.mk.inj hR
  have eu1 := hR
  replace hP : va_P (dC, dI) vwCl (fl [(w_X10 ad (0) cs en u1)]) H10 := by rw [← eu1]; exact hP
  replace hD : va_D A (fl [(w_X10 ad (0) cs en u1)]) := by rw [← eu1]; exact hD
  exact W.iret hx hb hr (fun t ht hW => ⟨⟨_, (), rfl, e9, by rw [ht]; exact hP, va_K.moved hW.alike hK, hD⟩, hS.F ht⟩) hS.2.2 dX10_rent_13
set_option maxHeartbeats 8000000 in
set_option maxRecDepth 100000 in
theorem k_X10_back (l : Launch) (dC : Nat → ClassId) (dI : Nat → Nat → Nat) (cs : Nat → ClassId) (ad : Nat → Nat) (en : Nat → Nat) (sz : Nat) (S1 : T5) (p1 : Int32) (p2 : Int32) (r : Int32) (u1 : T5) (hR : fX10_back S1 p1 p2 = some (r, u1)) : Met l yX10_back wsX10_back ({ frames := 5, cells := 0, slots := 0, locals := 115 } : Room) (va_Pc [.ref (ad 0), .int p1, .int p2] (pW dC dI (tyL cs) (fl [(w_X10 ad (0) cs en S1)]) sz)) (QI dC dI (tyL cs) (va_A (fl [(w_X10 ad (0) cs en S1)]) sz) (fl [(w_X10 ad (0) cs en u1)]) r) 0 0 (va_A (fl [(w_X10 ad (0) cs en S1)]) sz) := by
  refine mt_of (own := RX10) (cc := cX10_back) (maxL := 3) (ret := (some .int)) (Qc := fun A => QI dC dI (tyL cs) A (fl [(w_X10 ad (0) cs en u1)]) r) rfl (by decide) rfl (Nat.le_of_ble_eq_true rfl) (fun p e s m below meth c A ls hsz hx hb hr hts hown hlocks hml hA hK hP hD hS hl => ?_)
  subst hsz
  have hl : lv_has ls 3 [(0, .ref (ad 0)), (1, .int p1), (2, .int p2)] := hl
  refine lv_aload_n hx hb dX10_back_0 rfl (lv_at hl 0 rfl) ?_
  refine lv_aload_n hx hb dX10_back_1 rfl (lv_at hl 0 rfl) ?_
  replace hR := bd_e hR
  obtain ⟨q2, gq2, hR⟩ := hR
  refine cl_Va (As := []) (rest := [.ref (ad 0)]) (L := [(w_X10 ad (0) cs en S1)]) (L' := [(w_X10 ad (0) cs en q2)]) (Wc := [(w_X10 ad (0) cs en S1)]) (Wc' := [(w_X10 ad (0) cs en q2)]) (is := [0]) (js := []) ⟨hx, hb, hml, hown, hts⟩ (k_X10_freshDraft l dC dI cs ad en s.heap.size S1 q2 gq2) (cwV 0 hts gX10_back_X10_freshDraft rfl rfl rfl cd_X10_freshDraft ⟨Nat.le_of_ble_eq_true rfl, Nat.le_of_ble_eq_true rfl⟩) hK hP hD hS hA ⟨rfl, rfl, rfl, rfl, rfl, rfl⟩ (jn_nd (is := [0]) hD rfl rfl) 0 8 rfl rfl rfl rfl rfl hl.1 (Nat.le_of_ble_eq_true rfl) dX10_back_2 (fun H2 locs2 hP' hD' hS' => ?_)
  replace hS := hS'
  replace hP : va_P (dC, dI) vwCl (fl [(w_X10 ad (0) cs en q2)]) H2 := hP'
  replace hD : va_D A (fl [(w_X10 ad (0) cs en q2)]) := hD'
  clear hP' hD' hS'
  refine lv_iload_n hx hb dX10_back_5 rfl (lv_at hl 1 rfl) ?_
  refine lv_iload_n hx hb dX10_back_6 rfl (lv_at hl 2 rfl) ?_
  replace hR := bd_e hR
  obtain ⟨q7, gq7, hR⟩ := hR
  replace hP : va_P (dC, dI) vwCl (fl [[((ad 0), .inr (8, [.ref (ad (0 + 1)), .ref (ad (0 + 29)), .ref (ad (0 + 57)), .int (q2 1 3 2 0 0), .ref (ad (0 + 85)), .ref (ad (0 + 199)), .ref (ad (0 + 202))]))], (w_X5 ad (0 + 1) cs (q2 1 0)), (w_X5 ad (0 + 29) cs (q2 1 1)), (w_X5 ad (0 + 57) cs (q2 1 2)), (w_X3 ad (0 + 85) cs (q2 0)), (w_X2 ad (0 + 199) cs (q2 1 3 0)), (w_X7 ad (0 + 202) cs en (q2 1 3 1))]) H2 := hP
  replace hD : va_D A (fl [[((ad 0), .inr (8, [.ref (ad (0 + 1)), .ref (ad (0 + 29)), .ref (ad (0 + 57)), .int (q2 1 3 2 0 0), .ref (ad (0 + 85)), .ref (ad (0 + 199)), .ref (ad (0 + 202))]))], (w_X5 ad (0 + 1) cs (q2 1 0)), (w_X5 ad (0 + 29) cs (q2 1 1)), (w_X5 ad (0 + 57) cs (q2 1 2)), (w_X3 ad (0 + 85) cs (q2 0)), (w_X2 ad (0 + 199) cs (q2 1 3 0)), (w_X7 ad (0 + 202) cs en (q2 1 3 1))]) := hD
  refine cl_Vi (As := [.int p1, .int p2]) (rest := [.ref (ad 0)]) (L := [[((ad 0), .inr (8, [.ref (ad (0 + 1)), .ref (ad (0 + 29)), .ref (ad (0 + 57)), .int (q2 1 3 2 0 0), .ref (ad (0 + 85)), .ref (ad (0 + 199)), .ref (ad (0 + 202))]))], (w_X5 ad (0 + 1) cs (q2 1 0)), (w_X5 ad (0 + 29) cs (q2 1 1)), (w_X5 ad (0 + 57) cs (q2 1 2)), (w_X3 ad (0 + 85) cs (q2 0)), (w_X2 ad (0 + 199) cs (q2 1 3 0)), (w_X7 ad (0 + 202) cs en (q2 1 3 1))]) (L' := [[((ad 0), .inr (8, [.ref (ad (0 + 1)), .ref (ad (0 + 29)), .ref (ad (0 + 57)), .int ((sU q2 1 (sU (q2 1) 1 q7.2)) 1 3 2 0 0), .ref (ad (0 + 85)), .ref (ad (0 + 199)), .ref (ad (0 + 202))]))], (w_X5 ad (0 + 1) cs ((sU q2 1 (sU (q2 1) 1 q7.2)) 1 0)), (w_X5 ad (0 + 29) cs ((sU q2 1 (sU (q2 1) 1 q7.2)) 1 1)), (w_X5 ad (0 + 57) cs ((sU q2 1 (sU (q2 1) 1 q7.2)) 1 2)), (w_X3 ad (0 + 85) cs ((sU q2 1 (sU (q2 1) 1 q7.2)) 0)), (w_X2 ad (0 + 199) cs ((sU q2 1 (sU (q2 1) 1 q7.2)) 1 3 0)), (w_X7 ad (0 + 202) cs en ((sU q2 1 (sU (q2 1) 1 q7.2)) 1 3 1))]) (Wc := [(w_X5 ad (0 + 29) cs (q2 1 1))]) (Wc' := [(w_X5 ad (0 + 29) cs q7.2)]) (is := [2]) (js := [0, 1, 3, 4, 5, 6]) ⟨hx, hb, hml, hown, hts⟩ (k_X5_endRide l dC dI cs ad (0 + 29) H2.size (q2 1 1) p1 p2 q7.1 q7.2 gq7) (cwV 2 hts gX10_back_X5_endRide rfl rfl rfl cd_X5_endRide ⟨Nat.le_of_ble_eq_true rfl, Nat.le_of_ble_eq_true rfl⟩) hK hP hD hS hA ⟨rfl, rfl, rfl, rfl, rfl, rfl⟩ (jn_nd (is := [2]) hD rfl rfl) 29 4 rfl rfl rfl rfl rfl hl.1 (Nat.le_of_ble_eq_true rfl) dX10_back_7 (fun H7 locs7 hP' hD' hS' => ?_)
  replace hS := hS'
  have hP' : va_P (dC, dI) vwCl (fl [(w_X10 ad (0) cs en (sU q2 1 (sU (q2 1) 1 q7.2)))]) H7 := hP'
  have hD' : va_D A (fl [(w_X10 ad (0) cs en (sU q2 1 (sU (q2 1) 1 q7.2)))]) := hD'
  replace hR := bn_e hR
  obtain ⟨S1_7, eS1_7, hR⟩ := hR
  replace hP : va_P (dC, dI) vwCl (fl [(w_X10 ad (0) cs en S1_7)]) H7 := by rw [eS1_7]; exact hP'
  replace hD : va_D A (fl [(w_X10 ad (0) cs en S1_7)]) := by rw [eS1_7]; exact hD'
  clear hP' hD' hS'
  replace hR := bd_e hR
  obtain ⟨q10, gq10, hR⟩ := hR
  refine cl_Vi (As := [.int q7.1]) (rest := []) (L := [(w_X10 ad (0) cs en S1_7)]) (L' := [(w_X10 ad (0) cs en q10.2)]) (Wc := [(w_X10 ad (0) cs en S1_7)]) (Wc' := [(w_X10 ad (0) cs en q10.2)]) (is := [0]) (js := []) ⟨hx, hb, hml, hown, hts⟩ (k_X10_settle l dC dI cs ad en H7.size S1_7 q7.1 q10.1 q10.2 gq10) (cwV 1 hts gX10_back_X10_settle rfl rfl rfl cd_X10_settle ⟨Nat.le_of_ble_eq_true rfl, Nat.le_of_ble_eq_true rfl⟩) hK hP hD hS hA ⟨rfl, rfl, rfl, rfl, rfl, rfl⟩ (jn_nd (is := [0]) hD rfl rfl) 0 8 rfl rfl rfl rfl rfl hl.1 (Nat.le_of_ble_eq_true rfl) dX10_back_10 (fun H10 locs10 hP' hD' hS' => ?_)
  replace hS := hS'
  replace hP : va_P (dC, dI) vwCl (fl [(w_X10 ad (0) cs en q10.2)]) H10 := hP'
  replace hD : va_D A (fl [(w_X10 ad (0) cs en q10.2)]) := hD'
  clear hP' hD' hS'
  replace hR := Option.some.inj hR
  obtain ⟨e9, hR⟩ := Prod.mk.inj hR
  have eu1 := hR
  replace hP : va_P (dC, dI) vwCl (fl [(w_X10 ad (0) cs en u1)]) H10 := by rw [← eu1]; exact hP
  replace hD : va_D A (fl [(w_X10 ad (0) cs en u1)]) := by rw [← eu1]; exact hD
  exact W.iret hx hb hr (fun t ht hW => ⟨⟨_, (), rfl, e9, by rw [ht]; exact hP, va_K.moved hW.alike hK, hD⟩, hS.F ht⟩) hS.2.2 dX10_back_13
set_option maxHeartbeats 8000000 in
set_option maxRecDepth 100000 in
theorem k_X10_full (l : Launch) (dC : Nat → ClassId) (dI : Nat → Nat → Nat) (cs : Nat → ClassId) (ad : Nat → Nat) (en : Nat → Nat) (sz : Nat) (S1 : T5) (p1 : Int32) (p2 : Int32) (r : Int32) (u1 : T5) (hR : fX10_full S1 p1 p2 = some (r, u1)) : Met l yX10_full wsX10_full ({ frames := 5, cells := 0, slots := 0, locals := 115 } : Room) (va_Pc [.ref (ad 0), .int p1, .int p2] (pW dC dI (tyL cs) (fl [(w_X10 ad (0) cs en S1)]) sz)) (QI dC dI (tyL cs) (va_A (fl [(w_X10 ad (0) cs en S1)]) sz) (fl [(w_X10 ad (0) cs en u1)]) r) 0 0 (va_A (fl [(w_X10 ad (0) cs en S1)]) sz) := by
  refine mt_of (own := RX10) (cc := cX10_full) (maxL := 3) (ret := (some .int)) (Qc := fun A => QI dC dI (tyL cs) A (fl [(w_X10 ad (0) cs en u1)]) r) rfl (by decide) rfl (Nat.le_of_ble_eq_true rfl) (fun p e s m below meth c A ls hsz hx hb hr hts hown hlocks hml hA hK hP hD hS hl => ?_)
  subst hsz
  have hl : lv_has ls 3 [(0, .ref (ad 0)), (1, .int p1), (2, .int p2)] := hl
  refine lv_aload_n hx hb dX10_full_0 rfl (lv_at hl 0 rfl) ?_
  refine lv_aload_n hx hb dX10_full_1 rfl (lv_at hl 0 rfl) ?_
  replace hR := bd_e hR
  obtain ⟨q2, gq2, hR⟩ := hR
  refine cl_Va (As := []) (rest := [.ref (ad 0)]) (L := [(w_X10 ad (0) cs en S1)]) (L' := [(w_X10 ad (0) cs en q2)]) (Wc := [(w_X10 ad (0) cs en S1)]) (Wc' := [(w_X10 ad (0) cs en q2)]) (is := [0]) (js := []) ⟨hx, hb, hml, hown, hts⟩ (k_X10_freshDraft l dC dI cs ad en s.heap.size S1 q2 gq2) (cwV 0 hts gX10_full_X10_freshDraft rfl rfl rfl cd_X10_freshDraft ⟨Nat.le_of_ble_eq_true rfl, Nat.le_of_ble_eq_true rfl⟩) hK hP hD hS hA ⟨rfl, rfl, rfl, rfl, rfl, rfl⟩ (jn_nd (is := [0]) hD rfl rfl) 0 8 rfl rfl rfl rfl rfl hl.1 (Nat.le_of_ble_eq_true rfl) dX10_full_2 (fun H2 locs2 hP' hD' hS' => ?_)
  replace hS := hS'
  replace hP : va_P (dC, dI) vwCl (fl [(w_X10 ad (0) cs en q2)]) H2 := hP'
  replace hD : va_D A (fl [(w_X10 ad (0) cs en q2)]) := hD'
  clear hP' hD' hS'
  refine lv_iload_n hx hb dX10_full_5 rfl (lv_at hl 1 rfl) ?_
  refine lv_iload_n hx hb dX10_full_6 rfl (lv_at hl 2 rfl) ?_
  replace hR := bd_e hR
  obtain ⟨q7, gq7, hR⟩ := hR
  replace hP : va_P (dC, dI) vwCl (fl [[((ad 0), .inr (8, [.ref (ad (0 + 1)), .ref (ad (0 + 29)), .ref (ad (0 + 57)), .int (q2 1 3 2 0 0), .ref (ad (0 + 85)), .ref (ad (0 + 199)), .ref (ad (0 + 202))]))], (w_X5 ad (0 + 1) cs (q2 1 0)), (w_X5 ad (0 + 29) cs (q2 1 1)), (w_X5 ad (0 + 57) cs (q2 1 2)), (w_X3 ad (0 + 85) cs (q2 0)), (w_X2 ad (0 + 199) cs (q2 1 3 0)), (w_X7 ad (0 + 202) cs en (q2 1 3 1))]) H2 := hP
  replace hD : va_D A (fl [[((ad 0), .inr (8, [.ref (ad (0 + 1)), .ref (ad (0 + 29)), .ref (ad (0 + 57)), .int (q2 1 3 2 0 0), .ref (ad (0 + 85)), .ref (ad (0 + 199)), .ref (ad (0 + 202))]))], (w_X5 ad (0 + 1) cs (q2 1 0)), (w_X5 ad (0 + 29) cs (q2 1 1)), (w_X5 ad (0 + 57) cs (q2 1 2)), (w_X3 ad (0 + 85) cs (q2 0)), (w_X2 ad (0 + 199) cs (q2 1 3 0)), (w_X7 ad (0 + 202) cs en (q2 1 3 1))]) := hD
  refine cl_Vi (As := [.int p1, .int p2]) (rest := [.ref (ad 0)]) (L := [[((ad 0), .inr (8, [.ref (ad (0 + 1)), .ref (ad (0 + 29)), .ref (ad (0 + 57)), .int (q2 1 3 2 0 0), .ref (ad (0 + 85)), .ref (ad (0 + 199)), .ref (ad (0 + 202))]))], (w_X5 ad (0 + 1) cs (q2 1 0)), (w_X5 ad (0 + 29) cs (q2 1 1)), (w_X5 ad (0 + 57) cs (q2 1 2)), (w_X3 ad (0 + 85) cs (q2 0)), (w_X2 ad (0 + 199) cs (q2 1 3 0)), (w_X7 ad (0 + 202) cs en (q2 1 3 1))]) (L' := [[((ad 0), .inr (8, [.ref (ad (0 + 1)), .ref (ad (0 + 29)), .ref (ad (0 + 57)), .int ((sU q2 1 (sU (q2 1) 1 q7.2)) 1 3 2 0 0), .ref (ad (0 + 85)), .ref (ad (0 + 199)), .ref (ad (0 + 202))]))], (w_X5 ad (0 + 1) cs ((sU q2 1 (sU (q2 1) 1 q7.2)) 1 0)), (w_X5 ad (0 + 29) cs ((sU q2 1 (sU (q2 1) 1 q7.2)) 1 1)), (w_X5 ad (0 + 57) cs ((sU q2 1 (sU (q2 1) 1 q7.2)) 1 2)), (w_X3 ad (0 + 85) cs ((sU q2 1 (sU (q2 1) 1 q7.2)) 0)), (w_X2 ad (0 + 199) cs ((sU q2 1 (sU (q2 1) 1 q7.2)) 1 3 0)), (w_X7 ad (0 + 202) cs en ((sU q2 1 (sU (q2 1) 1 q7.2)) 1 3 1))]) (Wc := [(w_X5 ad (0 + 29) cs (q2 1 1))]) (Wc' := [(w_X5 ad (0 + 29) cs q7.2)]) (is := [2]) (js := [0, 1, 3, 4, 5, 6]) ⟨hx, hb, hml, hown, hts⟩ (k_X5_tellFull l dC dI cs ad (0 + 29) H2.size (q2 1 1) p1 p2 q7.1 q7.2 gq7) (cwV 2 hts gX10_full_X5_tellFull rfl rfl rfl cd_X5_tellFull ⟨Nat.le_of_ble_eq_true rfl, Nat.le_of_ble_eq_true rfl⟩) hK hP hD hS hA ⟨rfl, rfl, rfl, rfl, rfl, rfl⟩ (jn_nd (is := [2]) hD rfl rfl) 29 4 rfl rfl rfl rfl rfl hl.1 (Nat.le_of_ble_eq_true rfl) dX10_full_7 (fun H7 locs7 hP' hD' hS' => ?_)
  replace hS := hS'
  have hP' : va_P (dC, dI) vwCl (fl [(w_X10 ad (0) cs en (sU q2 1 (sU (q2 1) 1 q7.2)))]) H7 := hP'
  have hD' : va_D A (fl [(w_X10 ad (0) cs en (sU q2 1 (sU (q2 1) 1 q7.2)))]) := hD'
  replace hR := bn_e hR
  obtain ⟨S1_7, eS1_7, hR⟩ := hR
  replace hP : va_P (dC, dI) vwCl (fl [(w_X10 ad (0) cs en S1_7)]) H7 := by rw [eS1_7]; exact hP'
  replace hD : va_D A (fl [(w_X10 ad (0) cs en S1_7)]) := by rw [eS1_7]; exact hD'
  clear hP' hD' hS'
  replace hR := bd_e hR
  obtain ⟨q10, gq10, hR⟩ := hR
  refine cl_Vi (As := [.int q7.1]) (rest := []) (L := [(w_X10 ad (0) cs en S1_7)]) (L' := [(w_X10 ad (0) cs en q10.2)]) (Wc := [(w_X10 ad (0) cs en S1_7)]) (Wc' := [(w_X10 ad (0) cs en q10.2)]) (is := [0]) (js := []) ⟨hx, hb, hml, hown, hts⟩ (k_X10_settle l dC dI cs ad en H7.size S1_7 q7.1 q10.1 q10.2 gq10) (cwV 1 hts gX10_full_X10_settle rfl rfl rfl cd_X10_settle ⟨Nat.le_of_ble_eq_true rfl, Nat.le_of_ble_eq_true rfl⟩) hK hP hD hS hA ⟨rfl, rfl, rfl, rfl, rfl, rfl⟩ (jn_nd (is := [0]) hD rfl rfl) 0 8 rfl rfl rfl rfl rfl hl.1 (Nat.le_of_ble_eq_true rfl) dX10_full_10 (fun H10 locs10 hP' hD' hS' => ?_)
  replace hS := hS'
  replace hP : va_P (dC, dI) vwCl (fl [(w_X10 ad (0) cs en q10.2)]) H10 := hP'
  replace hD : va_D A (fl [(w_X10 ad (0) cs en q10.2)]) := hD'
  clear hP' hD' hS'
  replace hR := Option.some.inj hR
  obtain ⟨e9, hR⟩ := Prod.mk.inj hR
  have eu1 := hR
  replace hP : va_P (dC, dI) vwCl (fl [(w_X10 ad (0) cs en u1)]) H10 := by rw [← eu1]; exact hP
  replace hD : va_D A (fl [(w_X10 ad (0) cs en u1)]) := by rw [← eu1]; exact hD
  exact W.iret hx hb hr (fun t ht hW => ⟨⟨_, (), rfl, e9, by rw [ht]; exact hP, va_K.moved hW.alike hK, hD⟩, hS.F ht⟩) hS.2.2 dX10_full_13
set_option maxHeartbeats 8000000 in
set_option maxRecDepth 100000 in
theorem k_X10_report (l : Launch) (dC : Nat → ClassId) (dI : Nat → Nat → Nat) (cs : Nat → ClassId) (ad : Nat → Nat) (en : Nat → Nat) (sz : Nat) (S1 : T5) (p1 : Int32) (r : Int32) (u1 : T5) (hR : fX10_report S1 p1 = some (r, u1)) : Met l yX10_report wsX10_report ({ frames := 5, cells := 0, slots := 0, locals := 115 } : Room) (va_Pc [.ref (ad 0), .int p1] (pW dC dI (tyL cs) (fl [(w_X10 ad (0) cs en S1)]) sz)) (QI dC dI (tyL cs) (va_A (fl [(w_X10 ad (0) cs en S1)]) sz) (fl [(w_X10 ad (0) cs en u1)]) r) 0 0 (va_A (fl [(w_X10 ad (0) cs en S1)]) sz) := by
  refine mt_of (own := RX10) (cc := cX10_report) (maxL := 2) (ret := (some .int)) (Qc := fun A => QI dC dI (tyL cs) A (fl [(w_X10 ad (0) cs en u1)]) r) rfl (by decide) rfl (Nat.le_of_ble_eq_true rfl) (fun p e s m below meth c A ls hsz hx hb hr hts hown hlocks hml hA hK hP hD hS hl => ?_)
  subst hsz
  have hl : lv_has ls 2 [(0, .ref (ad 0)), (1, .int p1)] := hl
  refine lv_aload_n hx hb dX10_report_0 rfl (lv_at hl 0 rfl) ?_
  refine lv_aload_n hx hb dX10_report_1 rfl (lv_at hl 0 rfl) ?_
  replace hR := bd_e hR
  obtain ⟨q2, gq2, hR⟩ := hR
  refine cl_Va (As := []) (rest := [.ref (ad 0)]) (L := [(w_X10 ad (0) cs en S1)]) (L' := [(w_X10 ad (0) cs en q2)]) (Wc := [(w_X10 ad (0) cs en S1)]) (Wc' := [(w_X10 ad (0) cs en q2)]) (is := [0]) (js := []) ⟨hx, hb, hml, hown, hts⟩ (k_X10_freshDraft l dC dI cs ad en s.heap.size S1 q2 gq2) (cwV 0 hts gX10_report_X10_freshDraft rfl rfl rfl cd_X10_freshDraft ⟨Nat.le_of_ble_eq_true rfl, Nat.le_of_ble_eq_true rfl⟩) hK hP hD hS hA ⟨rfl, rfl, rfl, rfl, rfl, rfl⟩ (jn_nd (is := [0]) hD rfl rfl) 0 8 rfl rfl rfl rfl rfl hl.1 (Nat.le_of_ble_eq_true rfl) dX10_report_2 (fun H2 locs2 hP' hD' hS' => ?_)
  replace hS := hS'
  replace hP : va_P (dC, dI) vwCl (fl [(w_X10 ad (0) cs en q2)]) H2 := hP'
  replace hD : va_D A (fl [(w_X10 ad (0) cs en q2)]) := hD'
  clear hP' hD' hS'
  refine lv_iload_n hx hb dX10_report_5 rfl (lv_at hl 1 rfl) ?_
  replace hR := bd_e hR
  obtain ⟨q6, gq6, hR⟩ := hR
  replace hP : va_P (dC, dI) vwCl (fl [[((ad 0), .inr (8, [.ref (ad (0 + 1)), .ref (ad (0 + 29)), .ref (ad (0 + 57)), .int (q2 1 3 2 0 0), .ref (ad (0 + 85)), .ref (ad (0 + 199)), .ref (ad (0 + 202))]))], (w_X5 ad (0 + 1) cs (q2 1 0)), (w_X5 ad (0 + 29) cs (q2 1 1)), (w_X5 ad (0 + 57) cs (q2 1 2)), (w_X3 ad (0 + 85) cs (q2 0)), (w_X2 ad (0 + 199) cs (q2 1 3 0)), (w_X7 ad (0 + 202) cs en (q2 1 3 1))]) H2 := hP
  replace hD : va_D A (fl [[((ad 0), .inr (8, [.ref (ad (0 + 1)), .ref (ad (0 + 29)), .ref (ad (0 + 57)), .int (q2 1 3 2 0 0), .ref (ad (0 + 85)), .ref (ad (0 + 199)), .ref (ad (0 + 202))]))], (w_X5 ad (0 + 1) cs (q2 1 0)), (w_X5 ad (0 + 29) cs (q2 1 1)), (w_X5 ad (0 + 57) cs (q2 1 2)), (w_X3 ad (0 + 85) cs (q2 0)), (w_X2 ad (0 + 199) cs (q2 1 3 0)), (w_X7 ad (0 + 202) cs en (q2 1 3 1))]) := hD
  refine cl_Vi (As := [.int p1]) (rest := [.ref (ad 0)]) (L := [[((ad 0), .inr (8, [.ref (ad (0 + 1)), .ref (ad (0 + 29)), .ref (ad (0 + 57)), .int (q2 1 3 2 0 0), .ref (ad (0 + 85)), .ref (ad (0 + 199)), .ref (ad (0 + 202))]))], (w_X5 ad (0 + 1) cs (q2 1 0)), (w_X5 ad (0 + 29) cs (q2 1 1)), (w_X5 ad (0 + 57) cs (q2 1 2)), (w_X3 ad (0 + 85) cs (q2 0)), (w_X2 ad (0 + 199) cs (q2 1 3 0)), (w_X7 ad (0 + 202) cs en (q2 1 3 1))]) (L' := [[((ad 0), .inr (8, [.ref (ad (0 + 1)), .ref (ad (0 + 29)), .ref (ad (0 + 57)), .int ((sU q2 1 (sU (q2 1) 1 q6.2)) 1 3 2 0 0), .ref (ad (0 + 85)), .ref (ad (0 + 199)), .ref (ad (0 + 202))]))], (w_X5 ad (0 + 1) cs ((sU q2 1 (sU (q2 1) 1 q6.2)) 1 0)), (w_X5 ad (0 + 29) cs ((sU q2 1 (sU (q2 1) 1 q6.2)) 1 1)), (w_X5 ad (0 + 57) cs ((sU q2 1 (sU (q2 1) 1 q6.2)) 1 2)), (w_X3 ad (0 + 85) cs ((sU q2 1 (sU (q2 1) 1 q6.2)) 0)), (w_X2 ad (0 + 199) cs ((sU q2 1 (sU (q2 1) 1 q6.2)) 1 3 0)), (w_X7 ad (0 + 202) cs en ((sU q2 1 (sU (q2 1) 1 q6.2)) 1 3 1))]) (Wc := [(w_X5 ad (0 + 29) cs (q2 1 1))]) (Wc' := [(w_X5 ad (0 + 29) cs q6.2)]) (is := [2]) (js := [0, 1, 3, 4, 5, 6]) ⟨hx, hb, hml, hown, hts⟩ (k_X5_tellFaulty l dC dI cs ad (0 + 29) H2.size (q2 1 1) p1 q6.1 q6.2 gq6) (cwV 1 hts gX10_report_X5_tellFaulty rfl rfl rfl cd_X5_tellFaulty ⟨Nat.le_of_ble_eq_true rfl, Nat.le_of_ble_eq_true rfl⟩) hK hP hD hS hA ⟨rfl, rfl, rfl, rfl, rfl, rfl⟩ (jn_nd (is := [2]) hD rfl rfl) 29 4 rfl rfl rfl rfl rfl hl.1 (Nat.le_of_ble_eq_true rfl) dX10_report_6 (fun H6 locs6 hP' hD' hS' => ?_)
  replace hS := hS'
  have hP' : va_P (dC, dI) vwCl (fl [(w_X10 ad (0) cs en (sU q2 1 (sU (q2 1) 1 q6.2)))]) H6 := hP'
  have hD' : va_D A (fl [(w_X10 ad (0) cs en (sU q2 1 (sU (q2 1) 1 q6.2)))]) := hD'
  replace hR := bn_e hR
  obtain ⟨S1_6, eS1_6, hR⟩ := hR
  replace hP : va_P (dC, dI) vwCl (fl [(w_X10 ad (0) cs en S1_6)]) H6 := by rw [eS1_6]; exact hP'
  replace hD : va_D A (fl [(w_X10 ad (0) cs en S1_6)]) := by rw [eS1_6]; exact hD'
  clear hP' hD' hS'
  replace hR := bd_e hR
  obtain ⟨q9, gq9, hR⟩ := hR
  refine cl_Vi (As := [.int q6.1]) (rest := []) (L := [(w_X10 ad (0) cs en S1_6)]) (L' := [(w_X10 ad (0) cs en q9.2)]) (Wc := [(w_X10 ad (0) cs en S1_6)]) (Wc' := [(w_X10 ad (0) cs en q9.2)]) (is := [0]) (js := []) ⟨hx, hb, hml, hown, hts⟩ (k_X10_settle l dC dI cs ad en H6.size S1_6 q6.1 q9.1 q9.2 gq9) (cwV 1 hts gX10_report_X10_settle rfl rfl rfl cd_X10_settle ⟨Nat.le_of_ble_eq_true rfl, Nat.le_of_ble_eq_true rfl⟩) hK hP hD hS hA ⟨rfl, rfl, rfl, rfl, rfl, rfl⟩ (jn_nd (is := [0]) hD rfl rfl) 0 8 rfl rfl rfl rfl rfl hl.1 (Nat.le_of_ble_eq_true rfl) dX10_report_9 (fun H9 locs9 hP' hD' hS' => ?_)
  replace hS := hS'
  replace hP : va_P (dC, dI) vwCl (fl [(w_X10 ad (0) cs en q9.2)]) H9 := hP'
  replace hD : va_D A (fl [(w_X10 ad (0) cs en q9.2)]) := hD'
  clear hP' hD' hS'
  replace hR := Option.some.inj hR
  obtain ⟨e9, hR⟩ := Prod.mk.inj hR
  have eu1 := hR
  replace hP : va_P (dC, dI) vwCl (fl [(w_X10 ad (0) cs en u1)]) H9 := by rw [← eu1]; exact hP
  replace hD : va_D A (fl [(w_X10 ad (0) cs en u1)]) := by rw [← eu1]; exact hD
  exact W.iret hx hb hr (fun t ht hW => ⟨⟨_, (), rfl, e9, by rw [ht]; exact hP, va_K.moved hW.alike hK, hD⟩, hS.F ht⟩) hS.2.2 dX10_report_12
set_option maxHeartbeats 8000000 in
set_option maxRecDepth 100000 in
theorem k_X10_take (l : Launch) (dC : Nat → ClassId) (dI : Nat → Nat → Nat) (cs : Nat → ClassId) (ad : Nat → Nat) (en : Nat → Nat) (sz : Nat) (S1 : T5) (p1 : Int32) (p2 : Int32) (r : Int32) (u1 : T5) (hR : fX10_take S1 p1 p2 = some (r, u1)) : Met l yX10_take wsX10_take ({ frames := 5, cells := 0, slots := 0, locals := 115 } : Room) (va_Pc [.ref (ad 0), .int p1, .int p2] (pW dC dI (tyL cs) (fl [(w_X10 ad (0) cs en S1)]) sz)) (QI dC dI (tyL cs) (va_A (fl [(w_X10 ad (0) cs en S1)]) sz) (fl [(w_X10 ad (0) cs en u1)]) r) 0 0 (va_A (fl [(w_X10 ad (0) cs en S1)]) sz) := by
  refine mt_of (own := RX10) (cc := cX10_take) (maxL := 3) (ret := (some .int)) (Qc := fun A => QI dC dI (tyL cs) A (fl [(w_X10 ad (0) cs en u1)]) r) rfl (by decide) rfl (Nat.le_of_ble_eq_true rfl) (fun p e s m below meth c A ls hsz hx hb hr hts hown hlocks hml hA hK hP hD hS hl => ?_)
  subst hsz
  have hl : lv_has ls 3 [(0, .ref (ad 0)), (1, .int p1), (2, .int p2)] := hl
  refine lv_aload_n hx hb dX10_take_0 rfl (lv_at hl 0 rfl) ?_
  refine lv_aload_n hx hb dX10_take_1 rfl (lv_at hl 0 rfl) ?_
  replace hR := bd_e hR
  obtain ⟨q2, gq2, hR⟩ := hR
  refine cl_Va (As := []) (rest := [.ref (ad 0)]) (L := [(w_X10 ad (0) cs en S1)]) (L' := [(w_X10 ad (0) cs en q2)]) (Wc := [(w_X10 ad (0) cs en S1)]) (Wc' := [(w_X10 ad (0) cs en q2)]) (is := [0]) (js := []) ⟨hx, hb, hml, hown, hts⟩ (k_X10_freshDraft l dC dI cs ad en s.heap.size S1 q2 gq2) (cwV 0 hts gX10_take_X10_freshDraft rfl rfl rfl cd_X10_freshDraft ⟨Nat.le_of_ble_eq_true rfl, Nat.le_of_ble_eq_true rfl⟩) hK hP hD hS hA ⟨rfl, rfl, rfl, rfl, rfl, rfl⟩ (jn_nd (is := [0]) hD rfl rfl) 0 8 rfl rfl rfl rfl rfl hl.1 (Nat.le_of_ble_eq_true rfl) dX10_take_2 (fun H2 locs2 hP' hD' hS' => ?_)
  replace hS := hS'
  replace hP : va_P (dC, dI) vwCl (fl [(w_X10 ad (0) cs en q2)]) H2 := hP'
  replace hD : va_D A (fl [(w_X10 ad (0) cs en q2)]) := hD'
  clear hP' hD' hS'
  refine lv_iload_n hx hb dX10_take_5 rfl (lv_at hl 1 rfl) ?_
  refine lv_iload_n hx hb dX10_take_6 rfl (lv_at hl 2 rfl) ?_
  replace hR := bd_e hR
  obtain ⟨q7, gq7, hR⟩ := hR
  replace hP : va_P (dC, dI) vwCl (fl [[((ad 0), .inr (8, [.ref (ad (0 + 1)), .ref (ad (0 + 29)), .ref (ad (0 + 57)), .int (q2 1 3 2 0 0), .ref (ad (0 + 85)), .ref (ad (0 + 199)), .ref (ad (0 + 202))]))], (w_X5 ad (0 + 1) cs (q2 1 0)), (w_X5 ad (0 + 29) cs (q2 1 1)), (w_X5 ad (0 + 57) cs (q2 1 2)), (w_X3 ad (0 + 85) cs (q2 0)), (w_X2 ad (0 + 199) cs (q2 1 3 0)), (w_X7 ad (0 + 202) cs en (q2 1 3 1))]) H2 := hP
  replace hD : va_D A (fl [[((ad 0), .inr (8, [.ref (ad (0 + 1)), .ref (ad (0 + 29)), .ref (ad (0 + 57)), .int (q2 1 3 2 0 0), .ref (ad (0 + 85)), .ref (ad (0 + 199)), .ref (ad (0 + 202))]))], (w_X5 ad (0 + 1) cs (q2 1 0)), (w_X5 ad (0 + 29) cs (q2 1 1)), (w_X5 ad (0 + 57) cs (q2 1 2)), (w_X3 ad (0 + 85) cs (q2 0)), (w_X2 ad (0 + 199) cs (q2 1 3 0)), (w_X7 ad (0 + 202) cs en (q2 1 3 1))]) := hD
  refine cl_Vi (As := [.int p1, .int p2]) (rest := [.ref (ad 0)]) (L := [[((ad 0), .inr (8, [.ref (ad (0 + 1)), .ref (ad (0 + 29)), .ref (ad (0 + 57)), .int (q2 1 3 2 0 0), .ref (ad (0 + 85)), .ref (ad (0 + 199)), .ref (ad (0 + 202))]))], (w_X5 ad (0 + 1) cs (q2 1 0)), (w_X5 ad (0 + 29) cs (q2 1 1)), (w_X5 ad (0 + 57) cs (q2 1 2)), (w_X3 ad (0 + 85) cs (q2 0)), (w_X2 ad (0 + 199) cs (q2 1 3 0)), (w_X7 ad (0 + 202) cs en (q2 1 3 1))]) (L' := [[((ad 0), .inr (8, [.ref (ad (0 + 1)), .ref (ad (0 + 29)), .ref (ad (0 + 57)), .int ((sU q2 1 (sU (q2 1) 1 q7.2)) 1 3 2 0 0), .ref (ad (0 + 85)), .ref (ad (0 + 199)), .ref (ad (0 + 202))]))], (w_X5 ad (0 + 1) cs ((sU q2 1 (sU (q2 1) 1 q7.2)) 1 0)), (w_X5 ad (0 + 29) cs ((sU q2 1 (sU (q2 1) 1 q7.2)) 1 1)), (w_X5 ad (0 + 57) cs ((sU q2 1 (sU (q2 1) 1 q7.2)) 1 2)), (w_X3 ad (0 + 85) cs ((sU q2 1 (sU (q2 1) 1 q7.2)) 0)), (w_X2 ad (0 + 199) cs ((sU q2 1 (sU (q2 1) 1 q7.2)) 1 3 0)), (w_X7 ad (0 + 202) cs en ((sU q2 1 (sU (q2 1) 1 q7.2)) 1 3 1))]) (Wc := [(w_X5 ad (0 + 29) cs (q2 1 1))]) (Wc' := [(w_X5 ad (0 + 29) cs q7.2)]) (is := [2]) (js := [0, 1, 3, 4, 5, 6]) ⟨hx, hb, hml, hown, hts⟩ (k_X5_load l dC dI cs ad (0 + 29) H2.size (q2 1 1) p1 p2 q7.1 q7.2 gq7) (cwV 2 hts gX10_take_X5_load rfl rfl rfl cd_X5_load ⟨Nat.le_of_ble_eq_true rfl, Nat.le_of_ble_eq_true rfl⟩) hK hP hD hS hA ⟨rfl, rfl, rfl, rfl, rfl, rfl⟩ (jn_nd (is := [2]) hD rfl rfl) 29 4 rfl rfl rfl rfl rfl hl.1 (Nat.le_of_ble_eq_true rfl) dX10_take_7 (fun H7 locs7 hP' hD' hS' => ?_)
  replace hS := hS'
  have hP' : va_P (dC, dI) vwCl (fl [(w_X10 ad (0) cs en (sU q2 1 (sU (q2 1) 1 q7.2)))]) H7 := hP'
  have hD' : va_D A (fl [(w_X10 ad (0) cs en (sU q2 1 (sU (q2 1) 1 q7.2)))]) := hD'
  replace hR := bn_e hR
  obtain ⟨S1_7, eS1_7, hR⟩ := hR
  replace hP : va_P (dC, dI) vwCl (fl [(w_X10 ad (0) cs en S1_7)]) H7 := by rw [eS1_7]; exact hP'
  replace hD : va_D A (fl [(w_X10 ad (0) cs en S1_7)]) := by rw [eS1_7]; exact hD'
  clear hP' hD' hS'
  replace hR := bd_e hR
  obtain ⟨q10, gq10, hR⟩ := hR
  refine cl_Vi (As := [.int q7.1]) (rest := []) (L := [(w_X10 ad (0) cs en S1_7)]) (L' := [(w_X10 ad (0) cs en q10.2)]) (Wc := [(w_X10 ad (0) cs en S1_7)]) (Wc' := [(w_X10 ad (0) cs en q10.2)]) (is := [0]) (js := []) ⟨hx, hb, hml, hown, hts⟩ (k_X10_settle l dC dI cs ad en H7.size S1_7 q7.1 q10.1 q10.2 gq10) (cwV 1 hts gX10_take_X10_settle rfl rfl rfl cd_X10_settle ⟨Nat.le_of_ble_eq_true rfl, Nat.le_of_ble_eq_true rfl⟩) hK hP hD hS hA ⟨rfl, rfl, rfl, rfl, rfl, rfl⟩ (jn_nd (is := [0]) hD rfl rfl) 0 8 rfl rfl rfl rfl rfl hl.1 (Nat.le_of_ble_eq_true rfl) dX10_take_10 (fun H10 locs10 hP' hD' hS' => ?_)
  replace hS := hS'
  replace hP : va_P (dC, dI) vwCl (fl [(w_X10 ad (0) cs en q10.2)]) H10 := hP'
  replace hD : va_D A (fl [(w_X10 ad (0) cs en q10.2)]) := hD'
  clear hP' hD' hS'
  replace hR := Option.some.inj hR
  obtain ⟨e9, hR⟩ := Prod.mk.inj hR
  have eu1 := hR
  replace hP : va_P (dC, dI) vwCl (fl [(w_X10 ad (0) cs en u1)]) H10 := by rw [← eu1]; exact hP
  replace hD : va_D A (fl [(w_X10 ad (0) cs en u1)]) := by rw [← eu1]; exact hD
  exact W.iret hx hb hr (fun t ht hW => ⟨⟨_, (), rfl, e9, by rw [ht]; exact hP, va_K.moved hW.alike hK, hD⟩, hS.F ht⟩) hS.2.2 dX10_take_13
set_option maxHeartbeats 8000000 in
set_option maxRecDepth 100000 in
theorem k_X10_put (l : Launch) (dC : Nat → ClassId) (dI : Nat → Nat → Nat) (cs : Nat → ClassId) (ad : Nat → Nat) (en : Nat → Nat) (sz : Nat) (S1 : T5) (p1 : Int32) (p2 : Int32) (r : Int32) (u1 : T5) (hR : fX10_put S1 p1 p2 = some (r, u1)) : Met l yX10_put wsX10_put ({ frames := 5, cells := 0, slots := 0, locals := 115 } : Room) (va_Pc [.ref (ad 0), .int p1, .int p2] (pW dC dI (tyL cs) (fl [(w_X10 ad (0) cs en S1)]) sz)) (QI dC dI (tyL cs) (va_A (fl [(w_X10 ad (0) cs en S1)]) sz) (fl [(w_X10 ad (0) cs en u1)]) r) 0 0 (va_A (fl [(w_X10 ad (0) cs en S1)]) sz) := by
  refine mt_of (own := RX10) (cc := cX10_put) (maxL := 3) (ret := (some .int)) (Qc := fun A => QI dC dI (tyL cs) A (fl [(w_X10 ad (0) cs en u1)]) r) rfl (by decide) rfl (Nat.le_of_ble_eq_true rfl) (fun p e s m below meth c A ls hsz hx hb hr hts hown hlocks hml hA hK hP hD hS hl => ?_)
  subst hsz
  have hl : lv_has ls 3 [(0, .ref (ad 0)), (1, .int p1), (2, .int p2)] := hl
  refine lv_aload_n hx hb dX10_put_0 rfl (lv_at hl 0 rfl) ?_
  refine lv_aload_n hx hb dX10_put_1 rfl (lv_at hl 0 rfl) ?_
  replace hR := bd_e hR
  obtain ⟨q2, gq2, hR⟩ := hR
  refine cl_Va (As := []) (rest := [.ref (ad 0)]) (L := [(w_X10 ad (0) cs en S1)]) (L' := [(w_X10 ad (0) cs en q2)]) (Wc := [(w_X10 ad (0) cs en S1)]) (Wc' := [(w_X10 ad (0) cs en q2)]) (is := [0]) (js := []) ⟨hx, hb, hml, hown, hts⟩ (k_X10_freshDraft l dC dI cs ad en s.heap.size S1 q2 gq2) (cwV 0 hts gX10_put_X10_freshDraft rfl rfl rfl cd_X10_freshDraft ⟨Nat.le_of_ble_eq_true rfl, Nat.le_of_ble_eq_true rfl⟩) hK hP hD hS hA ⟨rfl, rfl, rfl, rfl, rfl, rfl⟩ (jn_nd (is := [0]) hD rfl rfl) 0 8 rfl rfl rfl rfl rfl hl.1 (Nat.le_of_ble_eq_true rfl) dX10_put_2 (fun H2 locs2 hP' hD' hS' => ?_)
  replace hS := hS'
  replace hP : va_P (dC, dI) vwCl (fl [(w_X10 ad (0) cs en q2)]) H2 := hP'
  replace hD : va_D A (fl [(w_X10 ad (0) cs en q2)]) := hD'
  clear hP' hD' hS'
  refine lv_iload_n hx hb dX10_put_5 rfl (lv_at hl 1 rfl) ?_
  refine lv_iload_n hx hb dX10_put_6 rfl (lv_at hl 2 rfl) ?_
  replace hR := bd_e hR
  obtain ⟨q7, gq7, hR⟩ := hR
  replace hP : va_P (dC, dI) vwCl (fl [[((ad 0), .inr (8, [.ref (ad (0 + 1)), .ref (ad (0 + 29)), .ref (ad (0 + 57)), .int (q2 1 3 2 0 0), .ref (ad (0 + 85)), .ref (ad (0 + 199)), .ref (ad (0 + 202))]))], (w_X5 ad (0 + 1) cs (q2 1 0)), (w_X5 ad (0 + 29) cs (q2 1 1)), (w_X5 ad (0 + 57) cs (q2 1 2)), (w_X3 ad (0 + 85) cs (q2 0)), (w_X2 ad (0 + 199) cs (q2 1 3 0)), (w_X7 ad (0 + 202) cs en (q2 1 3 1))]) H2 := hP
  replace hD : va_D A (fl [[((ad 0), .inr (8, [.ref (ad (0 + 1)), .ref (ad (0 + 29)), .ref (ad (0 + 57)), .int (q2 1 3 2 0 0), .ref (ad (0 + 85)), .ref (ad (0 + 199)), .ref (ad (0 + 202))]))], (w_X5 ad (0 + 1) cs (q2 1 0)), (w_X5 ad (0 + 29) cs (q2 1 1)), (w_X5 ad (0 + 57) cs (q2 1 2)), (w_X3 ad (0 + 85) cs (q2 0)), (w_X2 ad (0 + 199) cs (q2 1 3 0)), (w_X7 ad (0 + 202) cs en (q2 1 3 1))]) := hD
  refine cl_Vi (As := [.int p1, .int p2]) (rest := [.ref (ad 0)]) (L := [[((ad 0), .inr (8, [.ref (ad (0 + 1)), .ref (ad (0 + 29)), .ref (ad (0 + 57)), .int (q2 1 3 2 0 0), .ref (ad (0 + 85)), .ref (ad (0 + 199)), .ref (ad (0 + 202))]))], (w_X5 ad (0 + 1) cs (q2 1 0)), (w_X5 ad (0 + 29) cs (q2 1 1)), (w_X5 ad (0 + 57) cs (q2 1 2)), (w_X3 ad (0 + 85) cs (q2 0)), (w_X2 ad (0 + 199) cs (q2 1 3 0)), (w_X7 ad (0 + 202) cs en (q2 1 3 1))]) (L' := [[((ad 0), .inr (8, [.ref (ad (0 + 1)), .ref (ad (0 + 29)), .ref (ad (0 + 57)), .int ((sU q2 1 (sU (q2 1) 1 q7.2)) 1 3 2 0 0), .ref (ad (0 + 85)), .ref (ad (0 + 199)), .ref (ad (0 + 202))]))], (w_X5 ad (0 + 1) cs ((sU q2 1 (sU (q2 1) 1 q7.2)) 1 0)), (w_X5 ad (0 + 29) cs ((sU q2 1 (sU (q2 1) 1 q7.2)) 1 1)), (w_X5 ad (0 + 57) cs ((sU q2 1 (sU (q2 1) 1 q7.2)) 1 2)), (w_X3 ad (0 + 85) cs ((sU q2 1 (sU (q2 1) 1 q7.2)) 0)), (w_X2 ad (0 + 199) cs ((sU q2 1 (sU (q2 1) 1 q7.2)) 1 3 0)), (w_X7 ad (0 + 202) cs en ((sU q2 1 (sU (q2 1) 1 q7.2)) 1 3 1))]) (Wc := [(w_X5 ad (0 + 29) cs (q2 1 1))]) (Wc' := [(w_X5 ad (0 + 29) cs q7.2)]) (is := [2]) (js := [0, 1, 3, 4, 5, 6]) ⟨hx, hb, hml, hown, hts⟩ (k_X5_unload l dC dI cs ad (0 + 29) H2.size (q2 1 1) p1 p2 q7.1 q7.2 gq7) (cwV 2 hts gX10_put_X5_unload rfl rfl rfl cd_X5_unload ⟨Nat.le_of_ble_eq_true rfl, Nat.le_of_ble_eq_true rfl⟩) hK hP hD hS hA ⟨rfl, rfl, rfl, rfl, rfl, rfl⟩ (jn_nd (is := [2]) hD rfl rfl) 29 4 rfl rfl rfl rfl rfl hl.1 (Nat.le_of_ble_eq_true rfl) dX10_put_7 (fun H7 locs7 hP' hD' hS' => ?_)
  replace hS := hS'
  have hP' : va_P (dC, dI) vwCl (fl [(w_X10 ad (0) cs en (sU q2 1 (sU (q2 1) 1 q7.2)))]) H7 := hP'
  have hD' : va_D A (fl [(w_X10 ad (0) cs en (sU q2 1 (sU (q2 1) 1 q7.2)))]) := hD'
  replace hR := bn_e hR
  obtain ⟨S1_7, eS1_7, hR⟩ := hR
  replace hP : va_P (dC, dI) vwCl (fl [(w_X10 ad (0) cs en S1_7)]) H7 := by rw [eS1_7]; exact hP'
  replace hD : va_D A (fl [(w_X10 ad (0) cs en S1_7)]) := by rw [eS1_7]; exact hD'
  clear hP' hD' hS'
  replace hR := bd_e hR
  obtain ⟨q10, gq10, hR⟩ := hR
  refine cl_Vi (As := [.int q7.1]) (rest := []) (L := [(w_X10 ad (0) cs en S1_7)]) (L' := [(w_X10 ad (0) cs en q10.2)]) (Wc := [(w_X10 ad (0) cs en S1_7)]) (Wc' := [(w_X10 ad (0) cs en q10.2)]) (is := [0]) (js := []) ⟨hx, hb, hml, hown, hts⟩ (k_X10_settle l dC dI cs ad en H7.size S1_7 q7.1 q10.1 q10.2 gq10) (cwV 1 hts gX10_put_X10_settle rfl rfl rfl cd_X10_settle ⟨Nat.le_of_ble_eq_true rfl, Nat.le_of_ble_eq_true rfl⟩) hK hP hD hS hA ⟨rfl, rfl, rfl, rfl, rfl, rfl⟩ (jn_nd (is := [0]) hD rfl rfl) 0 8 rfl rfl rfl rfl rfl hl.1 (Nat.le_of_ble_eq_true rfl) dX10_put_10 (fun H10 locs10 hP' hD' hS' => ?_)
  replace hS := hS'
  replace hP : va_P (dC, dI) vwCl (fl [(w_X10 ad (0) cs en q10.2)]) H10 := hP'
  replace hD : va_D A (fl [(w_X10 ad (0) cs en q10.2)]) := hD'
  clear hP' hD' hS'
  replace hR := Option.some.inj hR
  obtain ⟨e9, hR⟩ := Prod.mk.inj hR
  have eu1 := hR
  replace hP : va_P (dC, dI) vwCl (fl [(w_X10 ad (0) cs en u1)]) H10 := by rw [← eu1]; exact hP
  replace hD : va_D A (fl [(w_X10 ad (0) cs en u1)]) := by rw [← eu1]; exact hD
  exact W.iret hx hb hr (fun t ht hW => ⟨⟨_, (), rfl, e9, by rw [ht]; exact hP, va_K.moved hW.alike hK, hD⟩, hS.F ht⟩) hS.2.2 dX10_put_13
set_option maxHeartbeats 8000000 in
set_option maxRecDepth 100000 in
theorem k_X10_go (l : Launch) (dC : Nat → ClassId) (dI : Nat → Nat → Nat) (cs : Nat → ClassId) (ad : Nat → Nat) (en : Nat → Nat) (sz : Nat) (S1 : T5) (p1 : Int32) (p2 : Int32) (r : Int32) (u1 : T5) (hR : fX10_go S1 p1 p2 = some (r, u1)) : Met l yX10_go wsX10_go ({ frames := 5, cells := 0, slots := 0, locals := 115 } : Room) (va_Pc [.ref (ad 0), .int p1, .int p2] (pW dC dI (tyL cs) (fl [(w_X10 ad (0) cs en S1)]) sz)) (QI dC dI (tyL cs) (va_A (fl [(w_X10 ad (0) cs en S1)]) sz) (fl [(w_X10 ad (0) cs en u1)]) r) 0 0 (va_A (fl [(w_X10 ad (0) cs en S1)]) sz) := by
  refine mt_of (own := RX10) (cc := cX10_go) (maxL := 3) (ret := (some .int)) (Qc := fun A => QI dC dI (tyL cs) A (fl [(w_X10 ad (0) cs en u1)]) r) rfl (by decide) rfl (Nat.le_of_ble_eq_true rfl) (fun p e s m below meth c A ls hsz hx hb hr hts hown hlocks hml hA hK hP hD hS hl => ?_)
  subst hsz
  have hl : lv_has ls 3 [(0, .ref (ad 0)), (1, .int p1), (2, .int p2)] := hl
  refine lv_aload_n hx hb dX10_go_0 rfl (lv_at hl 0 rfl) ?_
  refine lv_aload_n hx hb dX10_go_1 rfl (lv_at hl 0 rfl) ?_
  replace hR := bd_e hR
  obtain ⟨q2, gq2, hR⟩ := hR
  refine cl_Va (As := []) (rest := [.ref (ad 0)]) (L := [(w_X10 ad (0) cs en S1)]) (L' := [(w_X10 ad (0) cs en q2)]) (Wc := [(w_X10 ad (0) cs en S1)]) (Wc' := [(w_X10 ad (0) cs en q2)]) (is := [0]) (js := []) ⟨hx, hb, hml, hown, hts⟩ (k_X10_freshDraft l dC dI cs ad en s.heap.size S1 q2 gq2) (cwV 0 hts gX10_go_X10_freshDraft rfl rfl rfl cd_X10_freshDraft ⟨Nat.le_of_ble_eq_true rfl, Nat.le_of_ble_eq_true rfl⟩) hK hP hD hS hA ⟨rfl, rfl, rfl, rfl, rfl, rfl⟩ (jn_nd (is := [0]) hD rfl rfl) 0 8 rfl rfl rfl rfl rfl hl.1 (Nat.le_of_ble_eq_true rfl) dX10_go_2 (fun H2 locs2 hP' hD' hS' => ?_)
  replace hS := hS'
  replace hP : va_P (dC, dI) vwCl (fl [(w_X10 ad (0) cs en q2)]) H2 := hP'
  replace hD : va_D A (fl [(w_X10 ad (0) cs en q2)]) := hD'
  clear hP' hD' hS'
  refine lv_iload_n hx hb dX10_go_5 rfl (lv_at hl 1 rfl) ?_
  refine lv_iload_n hx hb dX10_go_6 rfl (lv_at hl 2 rfl) ?_
  replace hR := bd_e hR
  obtain ⟨q7, gq7, hR⟩ := hR
  replace hP : va_P (dC, dI) vwCl (fl [[((ad 0), .inr (8, [.ref (ad (0 + 1)), .ref (ad (0 + 29)), .ref (ad (0 + 57)), .int (q2 1 3 2 0 0), .ref (ad (0 + 85)), .ref (ad (0 + 199)), .ref (ad (0 + 202))]))], (w_X5 ad (0 + 1) cs (q2 1 0)), (w_X5 ad (0 + 29) cs (q2 1 1)), (w_X5 ad (0 + 57) cs (q2 1 2)), (w_X3 ad (0 + 85) cs (q2 0)), (w_X2 ad (0 + 199) cs (q2 1 3 0)), (w_X7 ad (0 + 202) cs en (q2 1 3 1))]) H2 := hP
  replace hD : va_D A (fl [[((ad 0), .inr (8, [.ref (ad (0 + 1)), .ref (ad (0 + 29)), .ref (ad (0 + 57)), .int (q2 1 3 2 0 0), .ref (ad (0 + 85)), .ref (ad (0 + 199)), .ref (ad (0 + 202))]))], (w_X5 ad (0 + 1) cs (q2 1 0)), (w_X5 ad (0 + 29) cs (q2 1 1)), (w_X5 ad (0 + 57) cs (q2 1 2)), (w_X3 ad (0 + 85) cs (q2 0)), (w_X2 ad (0 + 199) cs (q2 1 3 0)), (w_X7 ad (0 + 202) cs en (q2 1 3 1))]) := hD
  refine cl_Vi (As := [.int p1, .int p2]) (rest := [.ref (ad 0)]) (L := [[((ad 0), .inr (8, [.ref (ad (0 + 1)), .ref (ad (0 + 29)), .ref (ad (0 + 57)), .int (q2 1 3 2 0 0), .ref (ad (0 + 85)), .ref (ad (0 + 199)), .ref (ad (0 + 202))]))], (w_X5 ad (0 + 1) cs (q2 1 0)), (w_X5 ad (0 + 29) cs (q2 1 1)), (w_X5 ad (0 + 57) cs (q2 1 2)), (w_X3 ad (0 + 85) cs (q2 0)), (w_X2 ad (0 + 199) cs (q2 1 3 0)), (w_X7 ad (0 + 202) cs en (q2 1 3 1))]) (L' := [[((ad 0), .inr (8, [.ref (ad (0 + 1)), .ref (ad (0 + 29)), .ref (ad (0 + 57)), .int ((sU q2 1 (sU (q2 1) 1 q7.2)) 1 3 2 0 0), .ref (ad (0 + 85)), .ref (ad (0 + 199)), .ref (ad (0 + 202))]))], (w_X5 ad (0 + 1) cs ((sU q2 1 (sU (q2 1) 1 q7.2)) 1 0)), (w_X5 ad (0 + 29) cs ((sU q2 1 (sU (q2 1) 1 q7.2)) 1 1)), (w_X5 ad (0 + 57) cs ((sU q2 1 (sU (q2 1) 1 q7.2)) 1 2)), (w_X3 ad (0 + 85) cs ((sU q2 1 (sU (q2 1) 1 q7.2)) 0)), (w_X2 ad (0 + 199) cs ((sU q2 1 (sU (q2 1) 1 q7.2)) 1 3 0)), (w_X7 ad (0 + 202) cs en ((sU q2 1 (sU (q2 1) 1 q7.2)) 1 3 1))]) (Wc := [(w_X5 ad (0 + 29) cs (q2 1 1))]) (Wc' := [(w_X5 ad (0 + 29) cs q7.2)]) (is := [2]) (js := [0, 1, 3, 4, 5, 6]) ⟨hx, hb, hml, hown, hts⟩ (k_X5_sendVan l dC dI cs ad (0 + 29) H2.size (q2 1 1) p1 p2 q7.1 q7.2 gq7) (cwV 2 hts gX10_go_X5_sendVan rfl rfl rfl cd_X5_sendVan ⟨Nat.le_of_ble_eq_true rfl, Nat.le_of_ble_eq_true rfl⟩) hK hP hD hS hA ⟨rfl, rfl, rfl, rfl, rfl, rfl⟩ (jn_nd (is := [2]) hD rfl rfl) 29 4 rfl rfl rfl rfl rfl hl.1 (Nat.le_of_ble_eq_true rfl) dX10_go_7 (fun H7 locs7 hP' hD' hS' => ?_)
  replace hS := hS'
  have hP' : va_P (dC, dI) vwCl (fl [(w_X10 ad (0) cs en (sU q2 1 (sU (q2 1) 1 q7.2)))]) H7 := hP'
  have hD' : va_D A (fl [(w_X10 ad (0) cs en (sU q2 1 (sU (q2 1) 1 q7.2)))]) := hD'
  replace hR := bn_e hR
  obtain ⟨S1_7, eS1_7, hR⟩ := hR
  replace hP : va_P (dC, dI) vwCl (fl [(w_X10 ad (0) cs en S1_7)]) H7 := by rw [eS1_7]; exact hP'
  replace hD : va_D A (fl [(w_X10 ad (0) cs en S1_7)]) := by rw [eS1_7]; exact hD'
  clear hP' hD' hS'
  replace hR := bd_e hR
  obtain ⟨q10, gq10, hR⟩ := hR
  refine cl_Vi (As := [.int q7.1]) (rest := []) (L := [(w_X10 ad (0) cs en S1_7)]) (L' := [(w_X10 ad (0) cs en q10.2)]) (Wc := [(w_X10 ad (0) cs en S1_7)]) (Wc' := [(w_X10 ad (0) cs en q10.2)]) (is := [0]) (js := []) ⟨hx, hb, hml, hown, hts⟩ (k_X10_settle l dC dI cs ad en H7.size S1_7 q7.1 q10.1 q10.2 gq10) (cwV 1 hts gX10_go_X10_settle rfl rfl rfl cd_X10_settle ⟨Nat.le_of_ble_eq_true rfl, Nat.le_of_ble_eq_true rfl⟩) hK hP hD hS hA ⟨rfl, rfl, rfl, rfl, rfl, rfl⟩ (jn_nd (is := [0]) hD rfl rfl) 0 8 rfl rfl rfl rfl rfl hl.1 (Nat.le_of_ble_eq_true rfl) dX10_go_10 (fun H10 locs10 hP' hD' hS' => ?_)
  replace hS := hS'
  replace hP : va_P (dC, dI) vwCl (fl [(w_X10 ad (0) cs en q10.2)]) H10 := hP'
  replace hD : va_D A (fl [(w_X10 ad (0) cs en q10.2)]) := hD'
  clear hP' hD' hS'
  replace hR := Option.some.inj hR
  obtain ⟨e9, hR⟩ := Prod.mk.inj hR
  have eu1 := hR
  replace hP : va_P (dC, dI) vwCl (fl [(w_X10 ad (0) cs en u1)]) H10 := by rw [← eu1]; exact hP
  replace hD : va_D A (fl [(w_X10 ad (0) cs en u1)]) := by rw [← eu1]; exact hD
  exact W.iret hx hb hr (fun t ht hW => ⟨⟨_, (), rfl, e9, by rw [ht]; exact hP, va_K.moved hW.alike hK, hD⟩, hS.F ht⟩) hS.2.2 dX10_go_13
set_option maxHeartbeats 8000000 in
set_option maxRecDepth 100000 in
theorem k_X10_mend (l : Launch) (dC : Nat → ClassId) (dI : Nat → Nat → Nat) (cs : Nat → ClassId) (ad : Nat → Nat) (en : Nat → Nat) (sz : Nat) (S1 : T5) (p1 : Int32) (p2 : Int32) (r : Int32) (u1 : T5) (hR : fX10_mend S1 p1 p2 = some (r, u1)) : Met l yX10_mend wsX10_mend ({ frames := 5, cells := 0, slots := 0, locals := 115 } : Room) (va_Pc [.ref (ad 0), .int p1, .int p2] (pW dC dI (tyL cs) (fl [(w_X10 ad (0) cs en S1)]) sz)) (QI dC dI (tyL cs) (va_A (fl [(w_X10 ad (0) cs en S1)]) sz) (fl [(w_X10 ad (0) cs en u1)]) r) 0 0 (va_A (fl [(w_X10 ad (0) cs en S1)]) sz) := by
  refine mt_of (own := RX10) (cc := cX10_mend) (maxL := 3) (ret := (some .int)) (Qc := fun A => QI dC dI (tyL cs) A (fl [(w_X10 ad (0) cs en u1)]) r) rfl (by decide) rfl (Nat.le_of_ble_eq_true rfl) (fun p e s m below meth c A ls hsz hx hb hr hts hown hlocks hml hA hK hP hD hS hl => ?_)
  subst hsz
  have hl : lv_has ls 3 [(0, .ref (ad 0)), (1, .int p1), (2, .int p2)] := hl
  refine lv_aload_n hx hb dX10_mend_0 rfl (lv_at hl 0 rfl) ?_
  refine lv_aload_n hx hb dX10_mend_1 rfl (lv_at hl 0 rfl) ?_
  replace hR := bd_e hR
  obtain ⟨q2, gq2, hR⟩ := hR
  refine cl_Va (As := []) (rest := [.ref (ad 0)]) (L := [(w_X10 ad (0) cs en S1)]) (L' := [(w_X10 ad (0) cs en q2)]) (Wc := [(w_X10 ad (0) cs en S1)]) (Wc' := [(w_X10 ad (0) cs en q2)]) (is := [0]) (js := []) ⟨hx, hb, hml, hown, hts⟩ (k_X10_freshDraft l dC dI cs ad en s.heap.size S1 q2 gq2) (cwV 0 hts gX10_mend_X10_freshDraft rfl rfl rfl cd_X10_freshDraft ⟨Nat.le_of_ble_eq_true rfl, Nat.le_of_ble_eq_true rfl⟩) hK hP hD hS hA ⟨rfl, rfl, rfl, rfl, rfl, rfl⟩ (jn_nd (is := [0]) hD rfl rfl) 0 8 rfl rfl rfl rfl rfl hl.1 (Nat.le_of_ble_eq_true rfl) dX10_mend_2 (fun H2 locs2 hP' hD' hS' => ?_)
  replace hS := hS'
  replace hP : va_P (dC, dI) vwCl (fl [(w_X10 ad (0) cs en q2)]) H2 := hP'
  replace hD : va_D A (fl [(w_X10 ad (0) cs en q2)]) := hD'
  clear hP' hD' hS'
  refine lv_iload_n hx hb dX10_mend_5 rfl (lv_at hl 1 rfl) ?_
  refine lv_iload_n hx hb dX10_mend_6 rfl (lv_at hl 2 rfl) ?_
  replace hR := bd_e hR
  obtain ⟨q7, gq7, hR⟩ := hR
  replace hP : va_P (dC, dI) vwCl (fl [[((ad 0), .inr (8, [.ref (ad (0 + 1)), .ref (ad (0 + 29)), .ref (ad (0 + 57)), .int (q2 1 3 2 0 0), .ref (ad (0 + 85)), .ref (ad (0 + 199)), .ref (ad (0 + 202))]))], (w_X5 ad (0 + 1) cs (q2 1 0)), (w_X5 ad (0 + 29) cs (q2 1 1)), (w_X5 ad (0 + 57) cs (q2 1 2)), (w_X3 ad (0 + 85) cs (q2 0)), (w_X2 ad (0 + 199) cs (q2 1 3 0)), (w_X7 ad (0 + 202) cs en (q2 1 3 1))]) H2 := hP
  replace hD : va_D A (fl [[((ad 0), .inr (8, [.ref (ad (0 + 1)), .ref (ad (0 + 29)), .ref (ad (0 + 57)), .int (q2 1 3 2 0 0), .ref (ad (0 + 85)), .ref (ad (0 + 199)), .ref (ad (0 + 202))]))], (w_X5 ad (0 + 1) cs (q2 1 0)), (w_X5 ad (0 + 29) cs (q2 1 1)), (w_X5 ad (0 + 57) cs (q2 1 2)), (w_X3 ad (0 + 85) cs (q2 0)), (w_X2 ad (0 + 199) cs (q2 1 3 0)), (w_X7 ad (0 + 202) cs en (q2 1 3 1))]) := hD
  refine cl_Vi (As := [.int p1, .int p2]) (rest := [.ref (ad 0)]) (L := [[((ad 0), .inr (8, [.ref (ad (0 + 1)), .ref (ad (0 + 29)), .ref (ad (0 + 57)), .int (q2 1 3 2 0 0), .ref (ad (0 + 85)), .ref (ad (0 + 199)), .ref (ad (0 + 202))]))], (w_X5 ad (0 + 1) cs (q2 1 0)), (w_X5 ad (0 + 29) cs (q2 1 1)), (w_X5 ad (0 + 57) cs (q2 1 2)), (w_X3 ad (0 + 85) cs (q2 0)), (w_X2 ad (0 + 199) cs (q2 1 3 0)), (w_X7 ad (0 + 202) cs en (q2 1 3 1))]) (L' := [[((ad 0), .inr (8, [.ref (ad (0 + 1)), .ref (ad (0 + 29)), .ref (ad (0 + 57)), .int ((sU q2 1 (sU (q2 1) 1 q7.2)) 1 3 2 0 0), .ref (ad (0 + 85)), .ref (ad (0 + 199)), .ref (ad (0 + 202))]))], (w_X5 ad (0 + 1) cs ((sU q2 1 (sU (q2 1) 1 q7.2)) 1 0)), (w_X5 ad (0 + 29) cs ((sU q2 1 (sU (q2 1) 1 q7.2)) 1 1)), (w_X5 ad (0 + 57) cs ((sU q2 1 (sU (q2 1) 1 q7.2)) 1 2)), (w_X3 ad (0 + 85) cs ((sU q2 1 (sU (q2 1) 1 q7.2)) 0)), (w_X2 ad (0 + 199) cs ((sU q2 1 (sU (q2 1) 1 q7.2)) 1 3 0)), (w_X7 ad (0 + 202) cs en ((sU q2 1 (sU (q2 1) 1 q7.2)) 1 3 1))]) (Wc := [(w_X5 ad (0 + 29) cs (q2 1 1))]) (Wc' := [(w_X5 ad (0 + 29) cs q7.2)]) (is := [2]) (js := [0, 1, 3, 4, 5, 6]) ⟨hx, hb, hml, hown, hts⟩ (k_X5_handOver l dC dI cs ad (0 + 29) H2.size (q2 1 1) p1 p2 q7.1 q7.2 gq7) (cwV 2 hts gX10_mend_X5_handOver rfl rfl rfl cd_X5_handOver ⟨Nat.le_of_ble_eq_true rfl, Nat.le_of_ble_eq_true rfl⟩) hK hP hD hS hA ⟨rfl, rfl, rfl, rfl, rfl, rfl⟩ (jn_nd (is := [2]) hD rfl rfl) 29 4 rfl rfl rfl rfl rfl hl.1 (Nat.le_of_ble_eq_true rfl) dX10_mend_7 (fun H7 locs7 hP' hD' hS' => ?_)
  replace hS := hS'
  have hP' : va_P (dC, dI) vwCl (fl [(w_X10 ad (0) cs en (sU q2 1 (sU (q2 1) 1 q7.2)))]) H7 := hP'
  have hD' : va_D A (fl [(w_X10 ad (0) cs en (sU q2 1 (sU (q2 1) 1 q7.2)))]) := hD'
  replace hR := bn_e hR
  obtain ⟨S1_7, eS1_7, hR⟩ := hR
  replace hP : va_P (dC, dI) vwCl (fl [(w_X10 ad (0) cs en S1_7)]) H7 := by rw [eS1_7]; exact hP'
  replace hD : va_D A (fl [(w_X10 ad (0) cs en S1_7)]) := by rw [eS1_7]; exact hD'
  clear hP' hD' hS'
  replace hR := bd_e hR
  obtain ⟨q10, gq10, hR⟩ := hR
  refine cl_Vi (As := [.int q7.1]) (rest := []) (L := [(w_X10 ad (0) cs en S1_7)]) (L' := [(w_X10 ad (0) cs en q10.2)]) (Wc := [(w_X10 ad (0) cs en S1_7)]) (Wc' := [(w_X10 ad (0) cs en q10.2)]) (is := [0]) (js := []) ⟨hx, hb, hml, hown, hts⟩ (k_X10_settle l dC dI cs ad en H7.size S1_7 q7.1 q10.1 q10.2 gq10) (cwV 1 hts gX10_mend_X10_settle rfl rfl rfl cd_X10_settle ⟨Nat.le_of_ble_eq_true rfl, Nat.le_of_ble_eq_true rfl⟩) hK hP hD hS hA ⟨rfl, rfl, rfl, rfl, rfl, rfl⟩ (jn_nd (is := [0]) hD rfl rfl) 0 8 rfl rfl rfl rfl rfl hl.1 (Nat.le_of_ble_eq_true rfl) dX10_mend_10 (fun H10 locs10 hP' hD' hS' => ?_)
  replace hS := hS'
  replace hP : va_P (dC, dI) vwCl (fl [(w_X10 ad (0) cs en q10.2)]) H10 := hP'
  replace hD : va_D A (fl [(w_X10 ad (0) cs en q10.2)]) := hD'
  clear hP' hD' hS'
  replace hR := Option.some.inj hR
  obtain ⟨e9, hR⟩ := Prod.mk.inj hR
  have eu1 := hR
  replace hP : va_P (dC, dI) vwCl (fl [(w_X10 ad (0) cs en u1)]) H10 := by rw [← eu1]; exact hP
  replace hD : va_D A (fl [(w_X10 ad (0) cs en u1)]) := by rw [← eu1]; exact hD
  exact W.iret hx hb hr (fun t ht hW => ⟨⟨_, (), rfl, e9, by rw [ht]; exact hP, va_K.moved hW.alike hK, hD⟩, hS.F ht⟩) hS.2.2 dX10_mend_13
set_option maxHeartbeats 8000000 in
set_option maxRecDepth 100000 in
theorem k_X10_pause (l : Launch) (dC : Nat → ClassId) (dI : Nat → Nat → Nat) (cs : Nat → ClassId) (ad : Nat → Nat) (en : Nat → Nat) (sz : Nat) (S1 : T5) (p1 : Int32) (r : Int32) (u1 : T5) (hR : fX10_pause S1 p1 = some (r, u1)) : Met l yX10_pause wsX10_pause ({ frames := 5, cells := 0, slots := 0, locals := 115 } : Room) (va_Pc [.ref (ad 0), .int p1] (pW dC dI (tyL cs) (fl [(w_X10 ad (0) cs en S1)]) sz)) (QI dC dI (tyL cs) (va_A (fl [(w_X10 ad (0) cs en S1)]) sz) (fl [(w_X10 ad (0) cs en u1)]) r) 0 0 (va_A (fl [(w_X10 ad (0) cs en S1)]) sz) := by
  refine mt_of (own := RX10) (cc := cX10_pause) (maxL := 2) (ret := (some .int)) (Qc := fun A => QI dC dI (tyL cs) A (fl [(w_X10 ad (0) cs en u1)]) r) rfl (by decide) rfl (Nat.le_of_ble_eq_true rfl) (fun p e s m below meth c A ls hsz hx hb hr hts hown hlocks hml hA hK hP hD hS hl => ?_)
  subst hsz
  have hl : lv_has ls 2 [(0, .ref (ad 0)), (1, .int p1)] := hl
  refine lv_aload_n hx hb dX10_pause_0 rfl (lv_at hl 0 rfl) ?_
  refine lv_aload_n hx hb dX10_pause_1 rfl (lv_at hl 0 rfl) ?_
  replace hR := bd_e hR
  obtain ⟨q2, gq2, hR⟩ := hR
  refine cl_Va (As := []) (rest := [.ref (ad 0)]) (L := [(w_X10 ad (0) cs en S1)]) (L' := [(w_X10 ad (0) cs en q2)]) (Wc := [(w_X10 ad (0) cs en S1)]) (Wc' := [(w_X10 ad (0) cs en q2)]) (is := [0]) (js := []) ⟨hx, hb, hml, hown, hts⟩ (k_X10_freshDraft l dC dI cs ad en s.heap.size S1 q2 gq2) (cwV 0 hts gX10_pause_X10_freshDraft rfl rfl rfl cd_X10_freshDraft ⟨Nat.le_of_ble_eq_true rfl, Nat.le_of_ble_eq_true rfl⟩) hK hP hD hS hA ⟨rfl, rfl, rfl, rfl, rfl, rfl⟩ (jn_nd (is := [0]) hD rfl rfl) 0 8 rfl rfl rfl rfl rfl hl.1 (Nat.le_of_ble_eq_true rfl) dX10_pause_2 (fun H2 locs2 hP' hD' hS' => ?_)
  replace hS := hS'
  replace hP : va_P (dC, dI) vwCl (fl [(w_X10 ad (0) cs en q2)]) H2 := hP'
  replace hD : va_D A (fl [(w_X10 ad (0) cs en q2)]) := hD'
  clear hP' hD' hS'
  refine lv_iload_n hx hb dX10_pause_5 rfl (lv_at hl 1 rfl) ?_
  replace hR := bd_e hR
  obtain ⟨q6, gq6, hR⟩ := hR
  replace hP : va_P (dC, dI) vwCl (fl [[((ad 0), .inr (8, [.ref (ad (0 + 1)), .ref (ad (0 + 29)), .ref (ad (0 + 57)), .int (q2 1 3 2 0 0), .ref (ad (0 + 85)), .ref (ad (0 + 199)), .ref (ad (0 + 202))]))], (w_X5 ad (0 + 1) cs (q2 1 0)), (w_X5 ad (0 + 29) cs (q2 1 1)), (w_X5 ad (0 + 57) cs (q2 1 2)), (w_X3 ad (0 + 85) cs (q2 0)), (w_X2 ad (0 + 199) cs (q2 1 3 0)), (w_X7 ad (0 + 202) cs en (q2 1 3 1))]) H2 := hP
  replace hD : va_D A (fl [[((ad 0), .inr (8, [.ref (ad (0 + 1)), .ref (ad (0 + 29)), .ref (ad (0 + 57)), .int (q2 1 3 2 0 0), .ref (ad (0 + 85)), .ref (ad (0 + 199)), .ref (ad (0 + 202))]))], (w_X5 ad (0 + 1) cs (q2 1 0)), (w_X5 ad (0 + 29) cs (q2 1 1)), (w_X5 ad (0 + 57) cs (q2 1 2)), (w_X3 ad (0 + 85) cs (q2 0)), (w_X2 ad (0 + 199) cs (q2 1 3 0)), (w_X7 ad (0 + 202) cs en (q2 1 3 1))]) := hD
  refine cl_Vi (As := [.int p1]) (rest := [.ref (ad 0)]) (L := [[((ad 0), .inr (8, [.ref (ad (0 + 1)), .ref (ad (0 + 29)), .ref (ad (0 + 57)), .int (q2 1 3 2 0 0), .ref (ad (0 + 85)), .ref (ad (0 + 199)), .ref (ad (0 + 202))]))], (w_X5 ad (0 + 1) cs (q2 1 0)), (w_X5 ad (0 + 29) cs (q2 1 1)), (w_X5 ad (0 + 57) cs (q2 1 2)), (w_X3 ad (0 + 85) cs (q2 0)), (w_X2 ad (0 + 199) cs (q2 1 3 0)), (w_X7 ad (0 + 202) cs en (q2 1 3 1))]) (L' := [[((ad 0), .inr (8, [.ref (ad (0 + 1)), .ref (ad (0 + 29)), .ref (ad (0 + 57)), .int ((sU q2 1 (sU (q2 1) 1 q6.2)) 1 3 2 0 0), .ref (ad (0 + 85)), .ref (ad (0 + 199)), .ref (ad (0 + 202))]))], (w_X5 ad (0 + 1) cs ((sU q2 1 (sU (q2 1) 1 q6.2)) 1 0)), (w_X5 ad (0 + 29) cs ((sU q2 1 (sU (q2 1) 1 q6.2)) 1 1)), (w_X5 ad (0 + 57) cs ((sU q2 1 (sU (q2 1) 1 q6.2)) 1 2)), (w_X3 ad (0 + 85) cs ((sU q2 1 (sU (q2 1) 1 q6.2)) 0)), (w_X2 ad (0 + 199) cs ((sU q2 1 (sU (q2 1) 1 q6.2)) 1 3 0)), (w_X7 ad (0 + 202) cs en ((sU q2 1 (sU (q2 1) 1 q6.2)) 1 3 1))]) (Wc := [(w_X5 ad (0 + 29) cs (q2 1 1))]) (Wc' := [(w_X5 ad (0 + 29) cs q6.2)]) (is := [2]) (js := [0, 1, 3, 4, 5, 6]) ⟨hx, hb, hml, hown, hts⟩ (k_X5_letGoBy l dC dI cs ad (0 + 29) H2.size (q2 1 1) p1 q6.1 q6.2 gq6) (cwV 1 hts gX10_pause_X5_letGoBy rfl rfl rfl cd_X5_letGoBy ⟨Nat.le_of_ble_eq_true rfl, Nat.le_of_ble_eq_true rfl⟩) hK hP hD hS hA ⟨rfl, rfl, rfl, rfl, rfl, rfl⟩ (jn_nd (is := [2]) hD rfl rfl) 29 4 rfl rfl rfl rfl rfl hl.1 (Nat.le_of_ble_eq_true rfl) dX10_pause_6 (fun H6 locs6 hP' hD' hS' => ?_)
  replace hS := hS'
  have hP' : va_P (dC, dI) vwCl (fl [(w_X10 ad (0) cs en (sU q2 1 (sU (q2 1) 1 q6.2)))]) H6 := hP'
  have hD' : va_D A (fl [(w_X10 ad (0) cs en (sU q2 1 (sU (q2 1) 1 q6.2)))]) := hD'
  replace hR := bn_e hR
  obtain ⟨S1_6, eS1_6, hR⟩ := hR
  replace hP : va_P (dC, dI) vwCl (fl [(w_X10 ad (0) cs en S1_6)]) H6 := by rw [eS1_6]; exact hP'
  replace hD : va_D A (fl [(w_X10 ad (0) cs en S1_6)]) := by rw [eS1_6]; exact hD'
  clear hP' hD' hS'
  replace hR := bd_e hR
  obtain ⟨q9, gq9, hR⟩ := hR
  refine cl_Vi (As := [.int q6.1]) (rest := []) (L := [(w_X10 ad (0) cs en S1_6)]) (L' := [(w_X10 ad (0) cs en q9.2)]) (Wc := [(w_X10 ad (0) cs en S1_6)]) (Wc' := [(w_X10 ad (0) cs en q9.2)]) (is := [0]) (js := []) ⟨hx, hb, hml, hown, hts⟩ (k_X10_settle l dC dI cs ad en H6.size S1_6 q6.1 q9.1 q9.2 gq9) (cwV 1 hts gX10_pause_X10_settle rfl rfl rfl cd_X10_settle ⟨Nat.le_of_ble_eq_true rfl, Nat.le_of_ble_eq_true rfl⟩) hK hP hD hS hA ⟨rfl, rfl, rfl, rfl, rfl, rfl⟩ (jn_nd (is := [0]) hD rfl rfl) 0 8 rfl rfl rfl rfl rfl hl.1 (Nat.le_of_ble_eq_true rfl) dX10_pause_9 (fun H9 locs9 hP' hD' hS' => ?_)
  replace hS := hS'
  replace hP : va_P (dC, dI) vwCl (fl [(w_X10 ad (0) cs en q9.2)]) H9 := hP'
  replace hD : va_D A (fl [(w_X10 ad (0) cs en q9.2)]) := hD'
  clear hP' hD' hS'
  replace hR := Option.some.inj hR
  obtain ⟨e9, hR⟩ := Prod.mk.inj hR
  have eu1 := hR
  replace hP : va_P (dC, dI) vwCl (fl [(w_X10 ad (0) cs en u1)]) H9 := by rw [← eu1]; exact hP
  replace hD : va_D A (fl [(w_X10 ad (0) cs en u1)]) := by rw [← eu1]; exact hD
  exact W.iret hx hb hr (fun t ht hW => ⟨⟨_, (), rfl, e9, by rw [ht]; exact hP, va_K.moved hW.alike hK, hD⟩, hS.F ht⟩) hS.2.2 dX10_pause_12
set_option maxHeartbeats 8000000 in
set_option maxRecDepth 100000 in
theorem k_X10_set (l : Launch) (dC : Nat → ClassId) (dI : Nat → Nat → Nat) (cs : Nat → ClassId) (ad : Nat → Nat) (en : Nat → Nat) (sz : Nat) (S1 : T5) (p1 : Int32) (p2 : Int32) (r : Int32) (u1 : T5) (hR : fX10_set S1 p1 p2 = some (r, u1)) : Met l yX10_set wsX10_set ({ frames := 5, cells := 0, slots := 0, locals := 115 } : Room) (va_Pc [.ref (ad 0), .int p1, .int p2] (pW dC dI (tyL cs) (fl [(w_X10 ad (0) cs en S1)]) sz)) (QI dC dI (tyL cs) (va_A (fl [(w_X10 ad (0) cs en S1)]) sz) (fl [(w_X10 ad (0) cs en u1)]) r) 0 0 (va_A (fl [(w_X10 ad (0) cs en S1)]) sz) := by
  refine mt_of (own := RX10) (cc := cX10_set) (maxL := 3) (ret := (some .int)) (Qc := fun A => QI dC dI (tyL cs) A (fl [(w_X10 ad (0) cs en u1)]) r) rfl (by decide) rfl (Nat.le_of_ble_eq_true rfl) (fun p e s m below meth c A ls hsz hx hb hr hts hown hlocks hml hA hK hP hD hS hl => ?_)
  subst hsz
  have hl : lv_has ls 3 [(0, .ref (ad 0)), (1, .int p1), (2, .int p2)] := hl
  refine lv_aload_n hx hb dX10_set_0 rfl (lv_at hl 0 rfl) ?_
  refine lv_aload_n hx hb dX10_set_1 rfl (lv_at hl 0 rfl) ?_
  replace hR := bd_e hR
  obtain ⟨q2, gq2, hR⟩ := hR
  refine cl_Va (As := []) (rest := [.ref (ad 0)]) (L := [(w_X10 ad (0) cs en S1)]) (L' := [(w_X10 ad (0) cs en q2)]) (Wc := [(w_X10 ad (0) cs en S1)]) (Wc' := [(w_X10 ad (0) cs en q2)]) (is := [0]) (js := []) ⟨hx, hb, hml, hown, hts⟩ (k_X10_freshDraft l dC dI cs ad en s.heap.size S1 q2 gq2) (cwV 0 hts gX10_set_X10_freshDraft rfl rfl rfl cd_X10_freshDraft ⟨Nat.le_of_ble_eq_true rfl, Nat.le_of_ble_eq_true rfl⟩) hK hP hD hS hA ⟨rfl, rfl, rfl, rfl, rfl, rfl⟩ (jn_nd (is := [0]) hD rfl rfl) 0 8 rfl rfl rfl rfl rfl hl.1 (Nat.le_of_ble_eq_true rfl) dX10_set_2 (fun H2 locs2 hP' hD' hS' => ?_)
  replace hS := hS'
  replace hP : va_P (dC, dI) vwCl (fl [(w_X10 ad (0) cs en q2)]) H2 := hP'
  replace hD : va_D A (fl [(w_X10 ad (0) cs en q2)]) := hD'
  clear hP' hD' hS'
  refine lv_iload_n hx hb dX10_set_5 rfl (lv_at hl 1 rfl) ?_
  refine lv_iload_n hx hb dX10_set_6 rfl (lv_at hl 2 rfl) ?_
  replace hR := bd_e hR
  obtain ⟨q7, gq7, hR⟩ := hR
  replace hP : va_P (dC, dI) vwCl (fl [[((ad 0), .inr (8, [.ref (ad (0 + 1)), .ref (ad (0 + 29)), .ref (ad (0 + 57)), .int (q2 1 3 2 0 0), .ref (ad (0 + 85)), .ref (ad (0 + 199)), .ref (ad (0 + 202))]))], (w_X5 ad (0 + 1) cs (q2 1 0)), (w_X5 ad (0 + 29) cs (q2 1 1)), (w_X5 ad (0 + 57) cs (q2 1 2)), (w_X3 ad (0 + 85) cs (q2 0)), (w_X2 ad (0 + 199) cs (q2 1 3 0)), (w_X7 ad (0 + 202) cs en (q2 1 3 1))]) H2 := hP
  replace hD : va_D A (fl [[((ad 0), .inr (8, [.ref (ad (0 + 1)), .ref (ad (0 + 29)), .ref (ad (0 + 57)), .int (q2 1 3 2 0 0), .ref (ad (0 + 85)), .ref (ad (0 + 199)), .ref (ad (0 + 202))]))], (w_X5 ad (0 + 1) cs (q2 1 0)), (w_X5 ad (0 + 29) cs (q2 1 1)), (w_X5 ad (0 + 57) cs (q2 1 2)), (w_X3 ad (0 + 85) cs (q2 0)), (w_X2 ad (0 + 199) cs (q2 1 3 0)), (w_X7 ad (0 + 202) cs en (q2 1 3 1))]) := hD
  refine cl_Vi (As := [.int p1, .int p2]) (rest := [.ref (ad 0)]) (L := [[((ad 0), .inr (8, [.ref (ad (0 + 1)), .ref (ad (0 + 29)), .ref (ad (0 + 57)), .int (q2 1 3 2 0 0), .ref (ad (0 + 85)), .ref (ad (0 + 199)), .ref (ad (0 + 202))]))], (w_X5 ad (0 + 1) cs (q2 1 0)), (w_X5 ad (0 + 29) cs (q2 1 1)), (w_X5 ad (0 + 57) cs (q2 1 2)), (w_X3 ad (0 + 85) cs (q2 0)), (w_X2 ad (0 + 199) cs (q2 1 3 0)), (w_X7 ad (0 + 202) cs en (q2 1 3 1))]) (L' := [[((ad 0), .inr (8, [.ref (ad (0 + 1)), .ref (ad (0 + 29)), .ref (ad (0 + 57)), .int ((sU q2 1 (sU (q2 1) 1 q7.2)) 1 3 2 0 0), .ref (ad (0 + 85)), .ref (ad (0 + 199)), .ref (ad (0 + 202))]))], (w_X5 ad (0 + 1) cs ((sU q2 1 (sU (q2 1) 1 q7.2)) 1 0)), (w_X5 ad (0 + 29) cs ((sU q2 1 (sU (q2 1) 1 q7.2)) 1 1)), (w_X5 ad (0 + 57) cs ((sU q2 1 (sU (q2 1) 1 q7.2)) 1 2)), (w_X3 ad (0 + 85) cs ((sU q2 1 (sU (q2 1) 1 q7.2)) 0)), (w_X2 ad (0 + 199) cs ((sU q2 1 (sU (q2 1) 1 q7.2)) 1 3 0)), (w_X7 ad (0 + 202) cs en ((sU q2 1 (sU (q2 1) 1 q7.2)) 1 3 1))]) (Wc := [(w_X5 ad (0 + 29) cs (q2 1 1))]) (Wc' := [(w_X5 ad (0 + 29) cs q7.2)]) (is := [2]) (js := [0, 1, 3, 4, 5, 6]) ⟨hx, hb, hml, hown, hts⟩ (k_X5_changeSetting l dC dI cs ad (0 + 29) H2.size (q2 1 1) p1 p2 q7.1 q7.2 gq7) (cwV 2 hts gX10_set_X5_changeSetting rfl rfl rfl cd_X5_changeSetting ⟨Nat.le_of_ble_eq_true rfl, Nat.le_of_ble_eq_true rfl⟩) hK hP hD hS hA ⟨rfl, rfl, rfl, rfl, rfl, rfl⟩ (jn_nd (is := [2]) hD rfl rfl) 29 4 rfl rfl rfl rfl rfl hl.1 (Nat.le_of_ble_eq_true rfl) dX10_set_7 (fun H7 locs7 hP' hD' hS' => ?_)
  replace hS := hS'
  have hP' : va_P (dC, dI) vwCl (fl [(w_X10 ad (0) cs en (sU q2 1 (sU (q2 1) 1 q7.2)))]) H7 := hP'
  have hD' : va_D A (fl [(w_X10 ad (0) cs en (sU q2 1 (sU (q2 1) 1 q7.2)))]) := hD'
  replace hR := bn_e hR
  obtain ⟨S1_7, eS1_7, hR⟩ := hR
  replace hP : va_P (dC, dI) vwCl (fl [(w_X10 ad (0) cs en S1_7)]) H7 := by rw [eS1_7]; exact hP'
  replace hD : va_D A (fl [(w_X10 ad (0) cs en S1_7)]) := by rw [eS1_7]; exact hD'
  clear hP' hD' hS'
  replace hR := bd_e hR
  obtain ⟨q10, gq10, hR⟩ := hR
  refine cl_Vi (As := [.int q7.1]) (rest := []) (L := [(w_X10 ad (0) cs en S1_7)]) (L' := [(w_X10 ad (0) cs en q10.2)]) (Wc := [(w_X10 ad (0) cs en S1_7)]) (Wc' := [(w_X10 ad (0) cs en q10.2)]) (is := [0]) (js := []) ⟨hx, hb, hml, hown, hts⟩ (k_X10_settle l dC dI cs ad en H7.size S1_7 q7.1 q10.1 q10.2 gq10) (cwV 1 hts gX10_set_X10_settle rfl rfl rfl cd_X10_settle ⟨Nat.le_of_ble_eq_true rfl, Nat.le_of_ble_eq_true rfl⟩) hK hP hD hS hA ⟨rfl, rfl, rfl, rfl, rfl, rfl⟩ (jn_nd (is := [0]) hD rfl rfl) 0 8 rfl rfl rfl rfl rfl hl.1 (Nat.le_of_ble_eq_true rfl) dX10_set_10 (fun H10 locs10 hP' hD' hS' => ?_)
  replace hS := hS'
  replace hP : va_P (dC, dI) vwCl (fl [(w_X10 ad (0) cs en q10.2)]) H10 := hP'
  replace hD : va_D A (fl [(w_X10 ad (0) cs en q10.2)]) := hD'
  clear hP' hD' hS'
  replace hR := Option.some.inj hR
  obtain ⟨e9, hR⟩ := Prod.mk.inj hR
  have eu1 := hR
  replace hP : va_P (dC, dI) vwCl (fl [(w_X10 ad (0) cs en u1)]) H10 := by rw [← eu1]; exact hP
  replace hD : va_D A (fl [(w_X10 ad (0) cs en u1)]) := by rw [← eu1]; exact hD
  exact W.iret hx hb hr (fun t ht hW => ⟨⟨_, (), rfl, e9, by rw [ht]; exact hP, va_K.moved hW.alike hK, hD⟩, hS.F ht⟩) hS.2.2 dX10_set_13
