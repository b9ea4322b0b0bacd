set_option maxHeartbeats 8000000 in
set_option maxRecDepth 100000 in
theorem k_X5_tellFull (l : Launch) (dC : Nat → ClassId) (dI : Nat → Nat → Nat) (cs : Nat → ClassId) (ad : Nat → Nat) (b1 : Nat) (sz : Nat) (S1 : T3) (p1 : Int32) (p2 : Int32) (r : Int32) (u1 : T3) (hR : fX5_tellFull S1 p1 p2 = some (r, u1)) : Met l yX5_tellFull wsX5_tellFull ({ frames := 3, cells := 0, slots := 0, locals := 66 } : Room) (va_Pc [.ref (ad b1), .int p1, .int p2] (pW dC dI (tyL cs) (fl [(w_X5 ad (b1) cs S1)]) sz)) (QI dC dI (tyL cs) (va_A (fl [(w_X5 ad (b1) cs S1)]) sz) (fl [(w_X5 ad (b1) cs u1)]) r) 0 0 (va_A (fl [(w_X5 ad (b1) cs S1)]) sz) := by
  refine mt_of (own := RX5) (cc := cX5_tellFull) (maxL := 4) (ret := (some .int)) (Qc := fun A => QI dC dI (tyL cs) A (fl [(w_X5 ad (b1) cs u1)]) r) rfl (by decide) rfl (Nat.le_of_ble_eq_true rfl) (fun p e s m below meth c A ls hsz hx hb hr hts hown hlocks hml hA hK hP hD hS hl => ?_)
  subst hsz
  have hl : lv_has ls 4 [(0, .ref (ad b1)), (1, .int p1), (2, .int p2)] := hl
  have hF12 := hts (.fieldLink RX5 12 "DockedBikes$Road" "stations" "LDockedBikes$Stations;") (List.mem_of_getElem? (i := 2) rfl)
  have hF28 := hts (.fieldLink RX5 28 "DockedBikes$Road" "riders" "LDockedBikes$Riders;") (List.mem_of_getElem? (i := 1) rfl)
  have hF112 := hts (.fieldLink RX5 112 "DockedBikes$Riders" "free" "[I") (List.mem_of_getElem? (i := 4) rfl)
  have hF118 := hts (.fieldLink RX5 118 "DockedBikes$Riders" "told" "[I") (List.mem_of_getElem? (i := 3) rfl)
  have hinX4 : ∀ w ∈ wsX40, w ∈ wsX5_tellFull := by decide +kernel
  have hinX5 : ∀ w ∈ wsX50, w ∈ wsX5_tellFull := by decide +kernel
  have hB45 : ∀ (S1_45h : T3) (t0_45 : Int32) (H : Heap) (locs : List Loc) (ls : Array Slot), fX5_tellFull_45 p1 p2 S1_45h t0_45 = some (r, u1) → va_P (dC, dI) vwCl (fl [(w_X5 ad (b1) cs S1_45h)]) H → va_D A (fl [(w_X5 ad (b1) cs S1_45h)]) → va_S A s.heap H locs → lv_has ls 4 [(0, .ref (ad b1)), (1, .int p1), (2, .int p2)] → W p l e (headSpec wsX5_tellFull ({ frames := 3, cells := 0, slots := 0, locals := 66 } : Room)).room s m ([.ref (ad b1), .int p1, .int p2] : List Value).toArray below meth c H locs 0 0 (MQ below (QI dC dI (tyL cs) A (fl [(w_X5 ad (b1) cs u1)]) r) ([.ref (ad b1), .int p1, .int p2] : List Value).toArray s 0 0 A) (F0 m 45 ls [.int t0_45]) := by
    intro S1_45h t0_45 H locs ls hR hP hD hS hl
    refine lv_istore_n (lv' := [(3, .int t0_45), (0, .ref (ad b1)), (1, .int p1), (2, .int p2)]) hx hb dX5_tellFull_45 rfl hl (Nat.le_of_ble_eq_true rfl) rfl (fun ls hl => ?_)
    refine lv_aload_n hx hb dX5_tellFull_46 rfl (lv_at hl 1 rfl) ?_
    refine va_get (D := (dC, dI)) (ci := 4) (v := .ref (ad (b1 + 13))) (C := RX5) (T := TX5) (N := 6) hx hb hts hinX5 hown hK hP 0 rfl rfl 2 (by decide) hF28 (fun _ h9 => h9) rfl dX5_tellFull_47 ?_
    refine lv_iload_n hx hb dX5_tellFull_50 rfl (lv_at hl 2 rfl) ?_
    replace hR := bd_e hR
    obtain ⟨q51, gq51, hR⟩ := hR
    replace hP : va_P (dC, dI) vwCl (fl [[((ad b1), .inr (4, [.ref (ad (b1 + 1)), .ref (ad (b1 + 6)), .ref (ad (b1 + 13)), .ref (ad (b1 + 23)), .ref (ad (b1 + 27)), .int (S1_45h 4 1 0)]))], (w_X6 ad (b1 + 1) cs (S1_45h 0)), (w_X1 ad (b1 + 6) cs (S1_45h 1)), (w_X4 ad (b1 + 13) cs (S1_45h 2)), (w_X8 ad (b1 + 23) cs (S1_45h 3)), [((ad (b1 + 27)), .inl (cs 0, 3, .inl (S1_45h 4 0)))]]) H := hP
    replace hD : va_D A (fl [[((ad b1), .inr (4, [.ref (ad (b1 + 1)), .ref (ad (b1 + 6)), .ref (ad (b1 + 13)), .ref (ad (b1 + 23)), .ref (ad (b1 + 27)), .int (S1_45h 4 1 0)]))], (w_X6 ad (b1 + 1) cs (S1_45h 0)), (w_X1 ad (b1 + 6) cs (S1_45h 1)), (w_X4 ad (b1 + 13) cs (S1_45h 2)), (w_X8 ad (b1 + 23) cs (S1_45h 3)), [((ad (b1 + 27)), .inl (cs 0, 3, .inl (S1_45h 4 0)))]]) := hD
    refine cl_Vi (As := [.int p1]) (rest := []) (L := [[((ad b1), .inr (4, [.ref (ad (b1 + 1)), .ref (ad (b1 + 6)), .ref (ad (b1 + 13)), .ref (ad (b1 + 23)), .ref (ad (b1 + 27)), .int (S1_45h 4 1 0)]))], (w_X6 ad (b1 + 1) cs (S1_45h 0)), (w_X1 ad (b1 + 6) cs (S1_45h 1)), (w_X4 ad (b1 + 13) cs (S1_45h 2)), (w_X8 ad (b1 + 23) cs (S1_45h 3)), [((ad (b1 + 27)), .inl (cs 0, 3, .inl (S1_45h 4 0)))]]) (L' := [[((ad b1), .inr (4, [.ref (ad (b1 + 1)), .ref (ad (b1 + 6)), .ref (ad (b1 + 13)), .ref (ad (b1 + 23)), .ref (ad (b1 + 27)), .int (S1_45h 4 1 0)]))], (w_X6 ad (b1 + 1) cs (S1_45h 0)), (w_X1 ad (b1 + 6) cs (S1_45h 1)), (w_X4 ad (b1 + 13) cs (S1_45h 2)), (w_X8 ad (b1 + 23) cs (S1_45h 3)), [((ad (b1 + 27)), .inl (cs 0, 3, .inl (S1_45h 4 0)))]]) (Wc := [(w_X4 ad (b1 + 13) cs (S1_45h 2))]) (Wc' := [(w_X4 ad (b1 + 13) cs (S1_45h 2))]) (is := [3]) (js := [0, 1, 2, 4, 5]) ⟨hx, hb, hml, hown, hts⟩ (k_X4_hasRide l dC dI cs ad (b1 + 13) H.size (S1_45h 2) p1 q51 gq51) (cwV 1 hts gX5_tellFull_X4_hasRide rfl rfl rfl cd_X4_hasRide ⟨Nat.le_of_ble_eq_true rfl, Nat.le_of_ble_eq_true rfl⟩) hK hP hD hS hA ⟨rfl, rfl, rfl, rfl, rfl, rfl⟩ (jn_nd (is := [3]) hD rfl rfl) 13 3 rfl rfl rfl rfl rfl hl.1 (Nat.le_of_ble_eq_true rfl) dX5_tellFull_51 (fun H51 locs51 hP' hD' hS' => ?_)
    replace hS := hS'
    replace hP : va_P (dC, dI) vwCl (fl [(w_X5 ad (b1) cs S1_45h)]) H51 := hP'
    replace hD : va_D A (fl [(w_X5 ad (b1) cs S1_45h)]) := hD'
    clear hP' hD' hS'
    refine lv_if_eq (tgt := 69) hx hb dX5_tellFull_54 (by decide) (fun c54 => ?_) (fun c54 => ?_)
    · replace hR := it_t hR c54
      refine lv_bipush (v := (-2)) hx hb dX5_tellFull_69 bp_m2 ?_
      replace hR := Option.some.inj hR
      obtain ⟨e9, hR⟩ := Prod.mk.inj hR
      have eu1 := hR
      replace hP : va_P (dC, dI) vwCl (fl [(w_X5 ad (b1) cs u1)]) H51 := by rw [← eu1]; exact hP
      replace hD : va_D A (fl [(w_X5 ad (b1) cs u1)]) := by rw [← eu1]; exact hD
      exact W.iret hx hb hr (fun t ht hW => ⟨⟨_, (), rfl, e9, by rw [ht]; exact hP, va_K.moved hW.alike hK, hD⟩, hS.F ht⟩) hS.2.2 dX5_tellFull_71
    · replace hR := it_f hR c54
      refine lv_aload_n hx hb dX5_tellFull_57 rfl (lv_at hl 1 rfl) ?_
      refine lv_iload_n hx hb dX5_tellFull_58 rfl (lv_at hl 3 rfl) ?_
      replace hR := bd_e hR
      obtain ⟨q59, gq59, hR⟩ := hR
      refine cl_Vi (As := [.int p2]) (rest := []) (L := [(w_X5 ad (b1) cs S1_45h)]) (L' := [(w_X5 ad (b1) cs S1_45h)]) (Wc := [(w_X5 ad (b1) cs S1_45h)]) (Wc' := [(w_X5 ad (b1) cs S1_45h)]) (is := [0]) (js := []) ⟨hx, hb, hml, hown, hts⟩ (k_X5_hasFreeDock l dC dI cs ad (b1) H51.size S1_45h p2 q59 gq59) (cwV 1 hts gX5_tellFull_X5_hasFreeDock rfl rfl rfl cd_X5_hasFreeDock ⟨Nat.le_of_ble_eq_true rfl, Nat.le_of_ble_eq_true rfl⟩) hK hP hD hS hA ⟨rfl, rfl, rfl, rfl, rfl, rfl⟩ (jn_nd (is := [0]) hD rfl rfl) 0 4 rfl rfl rfl rfl rfl hl.1 (Nat.le_of_ble_eq_true rfl) dX5_tellFull_59 (fun H59 locs59 hP' hD' hS' => ?_)
      replace hS := hS'
      replace hP : va_P (dC, dI) vwCl (fl [(w_X5 ad (b1) cs S1_45h)]) H59 := hP'
      replace hD : va_D A (fl [(w_X5 ad (b1) cs S1_45h)]) := hD'
      clear hP' hD' hS'
      refine lv_if_ne (tgt := 69) hx hb dX5_tellFull_62 (by decide) (fun c62 => ?_) (fun c62 => ?_)
      · replace hR := it_f hR c62
        refine lv_bipush (v := (-2)) hx hb dX5_tellFull_69 bp_m2 ?_
        replace hR := Option.some.inj hR
        obtain ⟨e9, hR⟩ := Prod.mk.inj hR
        have eu1 := hR
        replace hP : va_P (dC, dI) vwCl (fl [(w_X5 ad (b1) cs u1)]) H59 := by rw [← eu1]; exact hP
        replace hD : va_D A (fl [(w_X5 ad (b1) cs u1)]) := by rw [← eu1]; exact hD
        exact W.iret hx hb hr (fun t ht hW => ⟨⟨_, (), rfl, e9, by rw [ht]; exact hP, va_K.moved hW.alike hK, hD⟩, hS.F ht⟩) hS.2.2 dX5_tellFull_71
      · replace hR := it_t hR c62
        refine lv_iload_n hx hb dX5_tellFull_65 rfl (lv_at hl 0 rfl) ?_
        refine lv_if_eq (tgt := 72) hx hb dX5_tellFull_66 (by decide) (fun c66 => ?_) (fun c66 => ?_)
        · replace hR := it_t hR c66
          refine lv_aload_n hx hb dX5_tellFull_72 rfl (lv_at hl 1 rfl) ?_
          refine va_get (D := (dC, dI)) (ci := 4) (v := .ref (ad (b1 + 13))) (C := RX5) (T := TX5) (N := 6) hx hb hts hinX5 hown hK hP 0 rfl rfl 2 (by decide) hF28 (fun _ h9 => h9) rfl dX5_tellFull_73 ?_
          refine va_get (D := (dC, dI)) (ci := 3) (v := .ref (ad (b1 + 13 + 9))) (C := RX4) (T := TX4) (N := 10) hx hb hts hinX4 hown hK hP 13 rfl rfl 9 (by decide) hF118 (fun _ h9 => h9) rfl dX5_tellFull_76 ?_
          refine lv_iload_n hx hb dX5_tellFull_79 rfl (lv_at hl 2 rfl) ?_
          refine lv_dup2_11 hx hb dX5_tellFull_80 rfl rfl ?_
          replace hR := gi_e hR
          obtain ⟨i81, hR⟩ := hR
          refine va_iald hx hb hK hP 22 0 rfl rfl i81 dX5_tellFull_81 ?_
          refine lv_iconst (v := 1) hx hb dX5_tellFull_82 ic_1 ?_
          refine lv_iload_n hx hb dX5_tellFull_83 rfl (lv_at hl 3 rfl) ?_
          refine lv_ishl hx hb dX5_tellFull_84 ?_
          refine lv_ior hx hb dX5_tellFull_85 ?_
          replace hR := gi_e hR
          obtain ⟨i86, hR⟩ := hR
          refine va_iast hx hb hK hP hD hS 22 0 rfl rfl i86 dX5_tellFull_86 (fun H86 locs86 hP' hD' hS' => ?_)
          replace hS := hS'
          have hP' : va_P (dC, dI) vwCl (fl [(w_X5 ad (b1) cs (sU S1_45h 2 (sU (S1_45h 2) 8 (sU (S1_45h 2 8) p1.toNatClampNeg ((S1_45h 2 8 p1.toNatClampNeg) ||| ((1 : Int32) <<< (p2 &&& 31)))))))]) H86 := hP'
          have hD' : va_D A (fl [(w_X5 ad (b1) cs (sU S1_45h 2 (sU (S1_45h 2) 8 (sU (S1_45h 2 8) p1.toNatClampNeg ((S1_45h 2 8 p1.toNatClampNeg) ||| ((1 : Int32) <<< (p2 &&& 31)))))))]) := hD'
          replace hR := bn_e hR
          obtain ⟨S1_86, eS1_86, hR⟩ := hR
          replace hP : va_P (dC, dI) vwCl (fl [(w_X5 ad (b1) cs S1_86)]) H86 := by rw [eS1_86]; exact hP'
          replace hD : va_D A (fl [(w_X5 ad (b1) cs S1_86)]) := by rw [eS1_86]; exact hD'
          clear hP' hD' hS'
          refine lv_aload_n hx hb dX5_tellFull_87 rfl (lv_at hl 1 rfl) ?_
          refine va_get (D := (dC, dI)) (ci := 4) (v := .ref (ad (b1 + 13))) (C := RX5) (T := TX5) (N := 6) hx hb hts hinX5 hown hK hP 0 rfl rfl 2 (by decide) hF28 (fun _ h9 => h9) rfl dX5_tellFull_88 ?_
          refine va_get (D := (dC, dI)) (ci := 3) (v := .ref (ad (b1 + 13 + 7))) (C := RX4) (T := TX4) (N := 10) hx hb hts hinX4 hown hK hP 13 rfl rfl 7 (by decide) hF112 (fun _ h9 => h9) rfl dX5_tellFull_91 ?_
          refine lv_iload_n hx hb dX5_tellFull_94 rfl (lv_at hl 2 rfl) ?_
          refine lv_dup2_11 hx hb dX5_tellFull_95 rfl rfl ?_
          replace hR := gi_e hR
          obtain ⟨i96, hR⟩ := hR
          refine va_iald hx hb hK hP 20 0 rfl rfl i96 dX5_tellFull_96 ?_
          refine lv_bipush (v := 15) hx hb dX5_tellFull_97 bp_15 ?_
          refine lv_iadd hx hb dX5_tellFull_99 ?_
          replace hR := gi_e hR
          obtain ⟨i100, hR⟩ := hR
          refine va_iast hx hb hK hP hD hS 20 0 rfl rfl i100 dX5_tellFull_100 (fun H100 locs100 hP' hD' hS' => ?_)
          replace hS := hS'
          have hP' : va_P (dC, dI) vwCl (fl [(w_X5 ad (b1) cs (sU S1_86 2 (sU (S1_86 2) 6 (sU (S1_86 2 6) p1.toNatClampNeg ((S1_86 2 6 p1.toNatClampNeg) + 15)))))]) H100 := hP'
          have hD' : va_D A (fl [(w_X5 ad (b1) cs (sU S1_86 2 (sU (S1_86 2) 6 (sU (S1_86 2 6) p1.toNatClampNeg ((S1_86 2 6 p1.toNatClampNeg) + 15)))))]) := hD'
          replace hR := bn_e hR
          obtain ⟨S1_100, eS1_100, hR⟩ := hR
          replace hP : va_P (dC, dI) vwCl (fl [(w_X5 ad (b1) cs S1_100)]) H100 := by rw [eS1_100]; exact hP'
          replace hD : va_D A (fl [(w_X5 ad (b1) cs S1_100)]) := by rw [eS1_100]; exact hD'
          clear hP' hD' hS'
          refine lv_aload_n hx hb dX5_tellFull_101 rfl (lv_at hl 1 rfl) ?_
          refine va_get (D := (dC, dI)) (ci := 4) (v := .ref (ad (b1 + 13))) (C := RX5) (T := TX5) (N := 6) hx hb hts hinX5 hown hK hP 0 rfl rfl 2 (by decide) hF28 (fun _ h9 => h9) rfl dX5_tellFull_102 ?_
          refine va_get (D := (dC, dI)) (ci := 3) (v := .ref (ad (b1 + 13 + 7))) (C := RX4) (T := TX4) (N := 10) hx hb hts hinX4 hown hK hP 13 rfl rfl 7 (by decide) hF112 (fun _ h9 => h9) rfl dX5_tellFull_105 ?_
          refine lv_iload_n hx hb dX5_tellFull_108 rfl (lv_at hl 2 rfl) ?_
          replace hR := gi_e hR
          obtain ⟨i109, hR⟩ := hR
          refine va_iald hx hb hK hP 20 0 rfl rfl i109 dX5_tellFull_109 ?_
          replace hR := Option.some.inj hR
          obtain ⟨e9, hR⟩ := Prod.mk.inj hR
          have eu1 := hR
          replace hP : va_P (dC, dI) vwCl (fl [(w_X5 ad (b1) cs u1)]) H100 := by rw [← eu1]; exact hP
          replace hD : va_D A (fl [(w_X5 ad (b1) cs u1)]) := by rw [← eu1]; exact hD
          exact W.iret hx hb hr (fun t ht hW => ⟨⟨_, (), rfl, e9, by rw [ht]; exact hP, va_K.moved hW.alike hK, hD⟩, hS.F ht⟩) hS.2.2 dX5_tellFull_110
        · replace hR := it_f hR c66
          refine lv_bipush (v := (-2)) hx hb dX5_tellFull_69 bp_m2 ?_
          replace hR := Option.some.inj hR
          obtain ⟨e9, hR⟩ := Prod.mk.inj hR
          have eu1 := hR
          replace hP : va_P (dC, dI) vwCl (fl [(w_X5 ad (b1) cs u1)]) H59 := by rw [← eu1]; exact hP
          replace hD : va_D A (fl [(w_X5 ad (b1) cs u1)]) := by rw [← eu1]; exact hD
          exact W.iret hx hb hr (fun t ht hW => ⟨⟨_, (), rfl, e9, by rw [ht]; exact hP, va_K.moved hW.alike hK, hD⟩, hS.F ht⟩) hS.2.2 dX5_tellFull_71
  refine lv_aload_n hx hb dX5_tellFull_0 rfl (lv_at hl 0 rfl) ?_
  refine va_get (D := (dC, dI)) (ci := 4) (v := .ref (ad (b1 + 13))) (C := RX5) (T := TX5) (N := 6) hx hb hts hinX5 hown hK hP 0 rfl rfl 2 (by decide) hF28 (fun _ h9 => h9) rfl dX5_tellFull_1 ?_
  refine lv_iload_n hx hb dX5_tellFull_4 rfl (lv_at hl 1 rfl) ?_
  replace hR := bd_e hR
  obtain ⟨q5, gq5, hR⟩ := hR
  replace hP : va_P (dC, dI) vwCl (fl [[((ad b1), .inr (4, [.ref (ad (b1 + 1)), .ref (ad (b1 + 6)), .ref (ad (b1 + 13)), .ref (ad (b1 + 23)), .ref (ad (b1 + 27)), .int (S1 4 1 0)]))], (w_X6 ad (b1 + 1) cs (S1 0)), (w_X1 ad (b1 + 6) cs (S1 1)), (w_X4 ad (b1 + 13) cs (S1 2)), (w_X8 ad (b1 + 23) cs (S1 3)), [((ad (b1 + 27)), .inl (cs 0, 3, .inl (S1 4 0)))]]) s.heap := hP
  replace hD : va_D A (fl [[((ad b1), .inr (4, [.ref (ad (b1 + 1)), .ref (ad (b1 + 6)), .ref (ad (b1 + 13)), .ref (ad (b1 + 23)), .ref (ad (b1 + 27)), .int (S1 4 1 0)]))], (w_X6 ad (b1 + 1) cs (S1 0)), (w_X1 ad (b1 + 6) cs (S1 1)), (w_X4 ad (b1 + 13) cs (S1 2)), (w_X8 ad (b1 + 23) cs (S1 3)), [((ad (b1 + 27)), .inl (cs 0, 3, .inl (S1 4 0)))]]) := hD
  refine cl_Vi (As := [.int p1]) (rest := []) (L := [[((ad b1), .inr (4, [.ref (ad (b1 + 1)), .ref (ad (b1 + 6)), .ref (ad (b1 + 13)), .ref (ad (b1 + 23)), .ref (ad (b1 + 27)), .int (S1 4 1 0)]))], (w_X6 ad (b1 + 1) cs (S1 0)), (w_X1 ad (b1 + 6) cs (S1 1)), (w_X4 ad (b1 + 13) cs (S1 2)), (w_X8 ad (b1 + 23) cs (S1 3)), [((ad (b1 + 27)), .inl (cs 0, 3, .inl (S1 4 0)))]]) (L' := [[((ad b1), .inr (4, [.ref (ad (b1 + 1)), .ref (ad (b1 + 6)), .ref (ad (b1 + 13)), .ref (ad (b1 + 23)), .ref (ad (b1 + 27)), .int (S1 4 1 0)]))], (w_X6 ad (b1 + 1) cs (S1 0)), (w_X1 ad (b1 + 6) cs (S1 1)), (w_X4 ad (b1 + 13) cs (S1 2)), (w_X8 ad (b1 + 23) cs (S1 3)), [((ad (b1 + 27)), .inl (cs 0, 3, .inl (S1 4 0)))]]) (Wc := [(w_X4 ad (b1 + 13) cs (S1 2))]) (Wc' := [(w_X4 ad (b1 + 13) cs (S1 2))]) (is := [3]) (js := [0, 1, 2, 4, 5]) ⟨hx, hb, hml, hown, hts⟩ (k_X4_has l dC dI cs ad (b1 + 13) s.heap.size (S1 2) p1 q5 gq5) (cwV 1 hts gX5_tellFull_X4_has rfl rfl rfl cd_X4_has ⟨Nat.le_of_ble_eq_true rfl, Nat.le_of_ble_eq_true rfl⟩) hK hP hD hS hA ⟨rfl, rfl, rfl, rfl, rfl, rfl⟩ (jn_nd (is := [3]) hD rfl rfl) 13 3 rfl rfl rfl rfl rfl hl.1 (Nat.le_of_ble_eq_true rfl) dX5_tellFull_5 (fun H5 locs5 hP' hD' hS' => ?_)
  replace hS := hS'
  replace hP : va_P (dC, dI) vwCl (fl [(w_X5 ad (b1) cs S1)]) H5 := hP'
  replace hD : va_D A (fl [(w_X5 ad (b1) cs S1)]) := hD'
  clear hP' hD' hS'
  refine lv_if_eq (tgt := 22) hx hb dX5_tellFull_8 (by decide) (fun c8 => ?_) (fun c8 => ?_)
  · replace hR := it_t hR c8
    refine lv_iconst (v := (-1)) hx hb dX5_tellFull_22 ic_m1 ?_
    replace hR := Option.some.inj hR
    obtain ⟨e9, hR⟩ := Prod.mk.inj hR
    have eu1 := hR
    replace hP : va_P (dC, dI) vwCl (fl [(w_X5 ad (b1) cs u1)]) H5 := by rw [← eu1]; exact hP
    replace hD : va_D A (fl [(w_X5 ad (b1) cs u1)]) := by rw [← eu1]; exact hD
    exact W.iret hx hb hr (fun t ht hW => ⟨⟨_, (), rfl, e9, by rw [ht]; exact hP, va_K.moved hW.alike hK, hD⟩, hS.F ht⟩) hS.2.2 dX5_tellFull_23
  · replace hR := it_f hR c8
    refine lv_aload_n hx hb dX5_tellFull_11 rfl (lv_at hl 0 rfl) ?_
    refine va_get (D := (dC, dI)) (ci := 4) (v := .ref (ad (b1 + 1))) (C := RX5) (T := TX5) (N := 6) hx hb hts hinX5 hown hK hP 0 rfl rfl 0 (by decide) hF12 (fun _ h9 => h9) rfl dX5_tellFull_12 ?_
    refine lv_iload_n hx hb dX5_tellFull_15 rfl (lv_at hl 2 rfl) ?_
    replace hR := bd_e hR
    obtain ⟨q16, gq16, hR⟩ := hR
    replace hP : va_P (dC, dI) vwCl (fl [[((ad b1), .inr (4, [.ref (ad (b1 + 1)), .ref (ad (b1 + 6)), .ref (ad (b1 + 13)), .ref (ad (b1 + 23)), .ref (ad (b1 + 27)), .int (S1 4 1 0)]))], (w_X6 ad (b1 + 1) cs (S1 0)), (w_X1 ad (b1 + 6) cs (S1 1)), (w_X4 ad (b1 + 13) cs (S1 2)), (w_X8 ad (b1 + 23) cs (S1 3)), [((ad (b1 + 27)), .inl (cs 0, 3, .inl (S1 4 0)))]]) H5 := hP
    replace hD : va_D A (fl [[((ad b1), .inr (4, [.ref (ad (b1 + 1)), .ref (ad (b1 + 6)), .ref (ad (b1 + 13)), .ref (ad (b1 + 23)), .ref (ad (b1 + 27)), .int (S1 4 1 0)]))], (w_X6 ad (b1 + 1) cs (S1 0)), (w_X1 ad (b1 + 6) cs (S1 1)), (w_X4 ad (b1 + 13) cs (S1 2)), (w_X8 ad (b1 + 23) cs (S1 3)), [((ad (b1 + 27)), .inl (cs 0, 3, .inl (S1 4 0)))]]) := hD
    refine cl_Vi (As := [.int p2]) (rest := []) (L := [[((ad b1), .inr (4, [.ref (ad (b1 + 1)), .ref (ad (b1 + 6)), .ref (ad (b1 + 13)), .ref (ad (b1 + 23)), .ref (ad (b1 + 27)), .int (S1 4 1 0)]))], (w_X6 ad (b1 + 1) cs (S1 0)), (w_X1 ad (b1 + 6) cs (S1 1)), (w_X4 ad (b1 + 13) cs (S1 2)), (w_X8 ad (b1 + 23) cs (S1 3)), [((ad (b1 + 27)), .inl (cs 0, 3, .inl (S1 4 0)))]]) (L' := [[((ad b1), .inr (4, [.ref (ad (b1 + 1)), .ref (ad (b1 + 6)), .ref (ad (b1 + 13)), .ref (ad (b1 + 23)), .ref (ad (b1 + 27)), .int (S1 4 1 0)]))], (w_X6 ad (b1 + 1) cs (S1 0)), (w_X1 ad (b1 + 6) cs (S1 1)), (w_X4 ad (b1 + 13) cs (S1 2)), (w_X8 ad (b1 + 23) cs (S1 3)), [((ad (b1 + 27)), .inl (cs 0, 3, .inl (S1 4 0)))]]) (Wc := [(w_X6 ad (b1 + 1) cs (S1 0))]) (Wc' := [(w_X6 ad (b1 + 1) cs (S1 0))]) (is := [1]) (js := [0, 2, 3, 4, 5]) ⟨hx, hb, hml, hown, hts⟩ (k_X6_has l dC dI cs ad (b1 + 1) H5.size (S1 0) p2 q16 gq16) (cwV 1 hts gX5_tellFull_X6_has rfl rfl rfl cd_X6_has ⟨Nat.le_of_ble_eq_true rfl, Nat.le_of_ble_eq_true rfl⟩) hK hP hD hS hA ⟨rfl, rfl, rfl, rfl, rfl, rfl⟩ (jn_nd (is := [1]) hD rfl rfl) 1 5 rfl rfl rfl rfl rfl hl.1 (Nat.le_of_ble_eq_true rfl) dX5_tellFull_16 (fun H16 locs16 hP' hD' hS' => ?_)
    replace hS := hS'
    replace hP : va_P (dC, dI) vwCl (fl [(w_X5 ad (b1) cs S1)]) H16 := hP'
    replace hD : va_D A (fl [(w_X5 ad (b1) cs S1)]) := hD'
    clear hP' hD' hS'
    refine lv_if_ne (tgt := 24) hx hb dX5_tellFull_19 (by decide) (fun c19 => ?_) (fun c19 => ?_)
    · replace hR := it_f hR c19
      refine lv_aload_n hx hb dX5_tellFull_24 rfl (lv_at hl 0 rfl) ?_
      refine va_get (D := (dC, dI)) (ci := 4) (v := .ref (ad (b1 + 13))) (C := RX5) (T := TX5) (N := 6) hx hb hts hinX5 hown hK hP 0 rfl rfl 2 (by decide) hF28 (fun _ h9 => h9) rfl dX5_tellFull_25 ?_
      refine va_get (D := (dC, dI)) (ci := 3) (v := .ref (ad (b1 + 13 + 9))) (C := RX4) (T := TX4) (N := 10) hx hb hts hinX4 hown hK hP 13 rfl rfl 9 (by decide) hF118 (fun _ h9 => h9) rfl dX5_tellFull_28 ?_
      refine lv_iload_n hx hb dX5_tellFull_31 rfl (lv_at hl 1 rfl) ?_
      replace hR := gi_e hR
      obtain ⟨i32, hR⟩ := hR
      refine va_iald hx hb hK hP 22 0 rfl rfl i32 dX5_tellFull_32 ?_
      refine lv_iconst (v := 1) hx hb dX5_tellFull_33 ic_1 ?_
      refine lv_iload_n hx hb dX5_tellFull_34 rfl (lv_at hl 2 rfl) ?_
      refine lv_ishl hx hb dX5_tellFull_35 ?_
      refine lv_iand hx hb dX5_tellFull_36 ?_
      refine lv_if_eq (tgt := 44) hx hb dX5_tellFull_37 (by decide) (fun c37 => ?_) (fun c37 => ?_)
      · replace hR := it_t hR c37
        refine lv_iconst (v := 0) hx hb dX5_tellFull_44 ic_0 ?_
        exact hB45 S1 (0 : Int32) H16 _ ls hR hP hD hS (lv_sub hl [0, 1, 2] rfl)
      · replace hR := it_f hR c37
        refine lv_iconst (v := 1) hx hb dX5_tellFull_40 ic_1 ?_
        refine lv_goto (tgt := 45) hx hb dX5_tellFull_41 (by decide) ?_
        exact hB45 S1 (1 : Int32) H16 _ ls hR hP hD hS (lv_sub hl [0, 1, 2] rfl)
    · replace hR := it_t hR c19
      refine lv_iconst (v := (-1)) hx hb dX5_tellFull_22 ic_m1 ?_
      replace hR := Option.some.inj hR
      obtain ⟨e9, hR⟩ := Prod.mk.inj hR
      have eu1 := hR
      replace hP : va_P (dC, dI) vwCl (fl [(w_X5 ad (b1) cs u1)]) H16 := by rw [← eu1]; exact hP
      replace hD : va_D A (fl [(w_X5 ad (b1) cs u1)]) := by rw [← eu1]; exact hD
      exact W.iret hx hb hr (fun t ht hW => ⟨⟨_, (), rfl, e9, by rw [ht]; exact hP, va_K.moved hW.alike hK, hD⟩, hS.F ht⟩) hS.2.2 dX5_tellFull_23
set_option maxHeartbeats 8000000 in
set_option maxRecDepth 100000 in
theorem k_X5_tellFaulty (l : Launch) (dC : Nat → ClassId) (dI : Nat → Nat → Nat) (cs : Nat → ClassId) (ad : Nat → Nat) (b1 : Nat) (sz : Nat) (S1 : T3) (p1 : Int32) (r : Int32) (u1 : T3) (hR : fX5_tellFaulty S1 p1 = some (r, u1)) : Met l yX5_tellFaulty wsX5_tellFaulty ({ frames := 1, cells := 0, slots := 0, locals := 22 } : Room) (va_Pc [.ref (ad b1), .int p1] (pW dC dI (tyL cs) (fl [(w_X5 ad (b1) cs S1)]) sz)) (QI dC dI (tyL cs) (va_A (fl [(w_X5 ad (b1) cs S1)]) sz) (fl [(w_X5 ad (b1) cs u1)]) r) 0 0 (va_A (fl [(w_X5 ad (b1) cs S1)]) sz) := by
  refine mt_of (own := RX5) (cc := cX5_tellFaulty) (maxL := 4) (ret := (some .int)) (Qc := fun A => QI dC dI (tyL cs) A (fl [(w_X5 ad (b1) cs u1)]) r) rfl (by decide) rfl (Nat.le_of_ble_eq_true rfl) (fun p e s m below meth c A ls hsz hx hb hr hts hown hlocks hml hA hK hP hD hS hl => ?_)
  subst hsz
  have hl : lv_has ls 4 [(0, .ref (ad b1)), (1, .int p1)] := hl
  have hF21 := hts (.fieldLink RX5 21 "DockedBikes$Road" "bicycles" "LDockedBikes$Bicycles;") (List.mem_of_getElem? (i := 1) rfl)
  have hF144 := hts (.fieldLink RX5 144 "DockedBikes$Bicycles" "where" "[I") (List.mem_of_getElem? (i := 2) rfl)
  have hF147 := hts (.fieldLink RX5 147 "DockedBikes$Bicycles" "faulty" "[I") (List.mem_of_getElem? (i := 3) rfl)
  have hinX1 : ∀ w ∈ wsX10, w ∈ wsX5_tellFaulty := by decide +kernel
  have hinX5 : ∀ w ∈ wsX50, w ∈ wsX5_tellFaulty := by decide +kernel
  have hB37 : ∀ (S1_37h : T3) (t0_37 : Int32) (H : Heap) (locs : List Loc) (ls : Array Slot), fX5_tellFaulty_37 p1 S1_37h t0_37 = some (r, u1) → va_P (dC, dI) vwCl (fl [(w_X5 ad (b1) cs S1_37h)]) H → va_D A (fl [(w_X5 ad (b1) cs S1_37h)]) → va_S A s.heap H locs → lv_has ls 4 [(0, .ref (ad b1)), (1, .int p1)] → W p l e (headSpec wsX5_tellFaulty ({ frames := 1, cells := 0, slots := 0, locals := 22 } : Room)).room s m ([.ref (ad b1), .int p1] : List Value).toArray below meth c H locs 0 0 (MQ below (QI dC dI (tyL cs) A (fl [(w_X5 ad (b1) cs u1)]) r) ([.ref (ad b1), .int p1] : List Value).toArray s 0 0 A) (F0 m 37 ls [.int t0_37]) := by
    intro S1_37h t0_37 H locs ls hR hP hD hS hl
    refine lv_istore_n (lv' := [(3, .int t0_37), (0, .ref (ad b1)), (1, .int p1)]) hx hb dX5_tellFaulty_37 rfl hl (Nat.le_of_ble_eq_true rfl) rfl (fun ls hl => ?_)
    refine lv_iload_n hx hb dX5_tellFaulty_38 rfl (lv_at hl 0 rfl) ?_
    refine lv_if_eq (tgt := 54) hx hb dX5_tellFaulty_39 (by decide) (fun c39 => ?_) (fun c39 => ?_)
    · replace hR := it_t hR c39
      refine lv_bipush (v := (-2)) hx hb dX5_tellFaulty_54 bp_m2 ?_
      replace hR := Option.some.inj hR
      obtain ⟨e9, hR⟩ := Prod.mk.inj hR
      have eu1 := hR
      replace hP : va_P (dC, dI) vwCl (fl [(w_X5 ad (b1) cs u1)]) H := by rw [← eu1]; exact hP
      replace hD : va_D A (fl [(w_X5 ad (b1) cs u1)]) := by rw [← eu1]; exact hD
      exact W.iret hx hb hr (fun t ht hW => ⟨⟨_, (), rfl, e9, by rw [ht]; exact hP, va_K.moved hW.alike hK, hD⟩, hS.F ht⟩) hS.2.2 dX5_tellFaulty_56
    · replace hR := it_f hR c39
      refine lv_aload_n hx hb dX5_tellFaulty_42 rfl (lv_at hl 1 rfl) ?_
      refine va_get (D := (dC, dI)) (ci := 4) (v := .ref (ad (b1 + 6))) (C := RX5) (T := TX5) (N := 6) hx hb hts hinX5 hown hK hP 0 rfl rfl 1 (by decide) hF21 (fun _ h9 => h9) rfl dX5_tellFaulty_43 ?_
      refine va_get (D := (dC, dI)) (ci := 0) (v := .ref (ad (b1 + 6 + 4))) (C := RX1) (T := TX1) (N := 7) hx hb hts hinX1 hown hK hP 6 rfl rfl 4 (by decide) hF147 (fun _ h9 => h9) rfl dX5_tellFaulty_46 ?_
      refine lv_iload_n hx hb dX5_tellFaulty_49 rfl (lv_at hl 2 rfl) ?_
      replace hR := gi_e hR
      obtain ⟨i50, hR⟩ := hR
      refine va_iald hx hb hK hP 10 0 rfl rfl i50 dX5_tellFaulty_50 ?_
      refine lv_if_eq (tgt := 57) hx hb dX5_tellFaulty_51 (by decide) (fun c51 => ?_) (fun c51 => ?_)
      · replace hR := it_t hR c51
        refine lv_aload_n hx hb dX5_tellFaulty_57 rfl (lv_at hl 1 rfl) ?_
        refine va_get (D := (dC, dI)) (ci := 4) (v := .ref (ad (b1 + 6))) (C := RX5) (T := TX5) (N := 6) hx hb hts hinX5 hown hK hP 0 rfl rfl 1 (by decide) hF21 (fun _ h9 => h9) rfl dX5_tellFaulty_58 ?_
        refine va_get (D := (dC, dI)) (ci := 0) (v := .ref (ad (b1 + 6 + 4))) (C := RX1) (T := TX1) (N := 7) hx hb hts hinX1 hown hK hP 6 rfl rfl 4 (by decide) hF147 (fun _ h9 => h9) rfl dX5_tellFaulty_61 ?_
        refine lv_iload_n hx hb dX5_tellFaulty_64 rfl (lv_at hl 2 rfl) ?_
        refine lv_iconst (v := 1) hx hb dX5_tellFaulty_65 ic_1 ?_
        replace hR := gi_e hR
        obtain ⟨i66, hR⟩ := hR
        refine va_iast hx hb hK hP hD hS 10 0 rfl rfl i66 dX5_tellFaulty_66 (fun H66 locs66 hP' hD' hS' => ?_)
        replace hS := hS'
        have hP' : va_P (dC, dI) vwCl (fl [(w_X5 ad (b1) cs (sU S1_37h 1 (sU (S1_37h 1) 3 (sU (S1_37h 1 3) p1.toNatClampNeg (1 : Int32)))))]) H66 := hP'
        have hD' : va_D A (fl [(w_X5 ad (b1) cs (sU S1_37h 1 (sU (S1_37h 1) 3 (sU (S1_37h 1 3) p1.toNatClampNeg (1 : Int32)))))]) := hD'
        replace hR := bn_e hR
        obtain ⟨S1_66, eS1_66, hR⟩ := hR
        replace hP : va_P (dC, dI) vwCl (fl [(w_X5 ad (b1) cs S1_66)]) H66 := by rw [eS1_66]; exact hP'
        replace hD : va_D A (fl [(w_X5 ad (b1) cs S1_66)]) := by rw [eS1_66]; exact hD'
        clear hP' hD' hS'
        refine lv_aload_n hx hb dX5_tellFaulty_67 rfl (lv_at hl 1 rfl) ?_
        refine va_get (D := (dC, dI)) (ci := 4) (v := .ref (ad (b1 + 6))) (C := RX5) (T := TX5) (N := 6) hx hb hts hinX5 hown hK hP 0 rfl rfl 1 (by decide) hF21 (fun _ h9 => h9) rfl dX5_tellFaulty_68 ?_
        replace hR := bd_e hR
        obtain ⟨q71, gq71, hR⟩ := hR
        replace hP : va_P (dC, dI) vwCl (fl [[((ad b1), .inr (4, [.ref (ad (b1 + 1)), .ref (ad (b1 + 6)), .ref (ad (b1 + 13)), .ref (ad (b1 + 23)), .ref (ad (b1 + 27)), .int (S1_66 4 1 0)]))], (w_X6 ad (b1 + 1) cs (S1_66 0)), (w_X1 ad (b1 + 6) cs (S1_66 1)), (w_X4 ad (b1 + 13) cs (S1_66 2)), (w_X8 ad (b1 + 23) cs (S1_66 3)), [((ad (b1 + 27)), .inl (cs 0, 3, .inl (S1_66 4 0)))]]) H66 := hP
        replace hD : va_D A (fl [[((ad b1), .inr (4, [.ref (ad (b1 + 1)), .ref (ad (b1 + 6)), .ref (ad (b1 + 13)), .ref (ad (b1 + 23)), .ref (ad (b1 + 27)), .int (S1_66 4 1 0)]))], (w_X6 ad (b1 + 1) cs (S1_66 0)), (w_X1 ad (b1 + 6) cs (S1_66 1)), (w_X4 ad (b1 + 13) cs (S1_66 2)), (w_X8 ad (b1 + 23) cs (S1_66 3)), [((ad (b1 + 27)), .inl (cs 0, 3, .inl (S1_66 4 0)))]]) := hD
        refine cl_Vi (As := []) (rest := []) (L := [[((ad b1), .inr (4, [.ref (ad (b1 + 1)), .ref (ad (b1 + 6)), .ref (ad (b1 + 13)), .ref (ad (b1 + 23)), .ref (ad (b1 + 27)), .int (S1_66 4 1 0)]))], (w_X6 ad (b1 + 1) cs (S1_66 0)), (w_X1 ad (b1 + 6) cs (S1_66 1)), (w_X4 ad (b1 + 13) cs (S1_66 2)), (w_X8 ad (b1 + 23) cs (S1_66 3)), [((ad (b1 + 27)), .inl (cs 0, 3, .inl (S1_66 4 0)))]]) (L' := [[((ad b1), .inr (4, [.ref (ad (b1 + 1)), .ref (ad (b1 + 6)), .ref (ad (b1 + 13)), .ref (ad (b1 + 23)), .ref (ad (b1 + 27)), .int (S1_66 4 1 0)]))], (w_X6 ad (b1 + 1) cs (S1_66 0)), (w_X1 ad (b1 + 6) cs (S1_66 1)), (w_X4 ad (b1 + 13) cs (S1_66 2)), (w_X8 ad (b1 + 23) cs (S1_66 3)), [((ad (b1 + 27)), .inl (cs 0, 3, .inl (S1_66 4 0)))]]) (Wc := [(w_X1 ad (b1 + 6) cs (S1_66 1))]) (Wc' := [(w_X1 ad (b1 + 6) cs (S1_66 1))]) (is := [2]) (js := [0, 1, 3, 4, 5]) ⟨hx, hb, hml, hown, hts⟩ (k_X1_countFaulty l dC dI cs ad (b1 + 6) H66.size (S1_66 1) q71 gq71) (cwV 0 hts gX5_tellFaulty_X1_countFaulty rfl rfl rfl cd_X1_countFaulty ⟨Nat.le_of_ble_eq_true rfl, Nat.le_of_ble_eq_true rfl⟩) hK hP hD hS hA ⟨rfl, rfl, rfl, rfl, rfl, rfl⟩ (jn_nd (is := [2]) hD rfl rfl) 6 0 rfl rfl rfl rfl rfl hl.1 (Nat.le_of_ble_eq_true rfl) dX5_tellFaulty_71 (fun H71 locs71 hP' hD' hS' => ?_)
        replace hS := hS'
        replace hP : va_P (dC, dI) vwCl (fl [(w_X5 ad (b1) cs S1_66)]) H71 := hP'
        replace hD : va_D A (fl [(w_X5 ad (b1) cs S1_66)]) := hD'
        clear hP' hD' hS'
        replace hR := Option.some.inj hR
        obtain ⟨e9, hR⟩ := Prod.mk.inj hR
        have eu1 := hR
        replace hP : va_P (dC, dI) vwCl (fl [(w_X5 ad (b1) cs u1)]) H71 := by rw [← eu1]; exact hP
        replace hD : va_D A (fl [(w_X5 ad (b1) cs u1)]) := by rw [← eu1]; exact hD
        exact W.iret hx hb hr (fun t ht hW => ⟨⟨_, (), rfl, e9, by rw [ht]; exact hP, va_K.moved hW.alike hK, hD⟩, hS.F ht⟩) hS.2.2 dX5_tellFaulty_74
      · replace hR := it_f hR c51
        refine lv_bipush (v := (-2)) hx hb dX5_tellFaulty_54 bp_m2 ?_
        replace hR := Option.some.inj hR
        obtain ⟨e9, hR⟩ := Prod.mk.inj hR
        have eu1 := hR
        replace hP : va_P (dC, dI) vwCl (fl [(w_X5 ad (b1) cs u1)]) H := by rw [← eu1]; exact hP
        replace hD : va_D A (fl [(w_X5 ad (b1) cs u1)]) := by rw [← eu1]; exact hD
        exact W.iret hx hb hr (fun t ht hW => ⟨⟨_, (), rfl, e9, by rw [ht]; exact hP, va_K.moved hW.alike hK, hD⟩, hS.F ht⟩) hS.2.2 dX5_tellFaulty_56
  have hB32 : ∀ (S1_32h : T3) (H : Heap) (locs : List Loc) (ls : Array Slot), fX5_tellFaulty_32 p1 S1_32h = some (r, u1) → va_P (dC, dI) vwCl (fl [(w_X5 ad (b1) cs S1_32h)]) H → va_D A (fl [(w_X5 ad (b1) cs S1_32h)]) → va_S A s.heap H locs → lv_has ls 4 [(0, .ref (ad b1)), (1, .int p1)] → W p l e (headSpec wsX5_tellFaulty ({ frames := 1, cells := 0, slots := 0, locals := 22 } : Room)).room s m ([.ref (ad b1), .int p1] : List Value).toArray below meth c H locs 0 0 (MQ below (QI dC dI (tyL cs) A (fl [(w_X5 ad (b1) cs u1)]) r) ([.ref (ad b1), .int p1] : List Value).toArray s 0 0 A) (F0 m 32 ls []) := by
    intro S1_32h H locs ls hR hP hD hS hl
    refine lv_iconst (v := 1) hx hb dX5_tellFaulty_32 ic_1 ?_
    refine lv_goto (tgt := 37) hx hb dX5_tellFaulty_33 (by decide) ?_
    exact hB37 S1_32h (1 : Int32) H _ ls hR hP hD hS (lv_sub hl [0, 1] rfl)
  refine lv_aload_n hx hb dX5_tellFaulty_0 rfl (lv_at hl 0 rfl) ?_
  refine va_get (D := (dC, dI)) (ci := 4) (v := .ref (ad (b1 + 6))) (C := RX5) (T := TX5) (N := 6) hx hb hts hinX5 hown hK hP 0 rfl rfl 1 (by decide) hF21 (fun _ h9 => h9) rfl dX5_tellFaulty_1 ?_
  refine lv_iload_n hx hb dX5_tellFaulty_4 rfl (lv_at hl 1 rfl) ?_
  replace hR := bd_e hR
  obtain ⟨q5, gq5, hR⟩ := hR
  replace hP : va_P (dC, dI) vwCl (fl [[((ad b1), .inr (4, [.ref (ad (b1 + 1)), .ref (ad (b1 + 6)), .ref (ad (b1 + 13)), .ref (ad (b1 + 23)), .ref (ad (b1 + 27)), .int (S1 4 1 0)]))], (w_X6 ad (b1 + 1) cs (S1 0)), (w_X1 ad (b1 + 6) cs (S1 1)), (w_X4 ad (b1 + 13) cs (S1 2)), (w_X8 ad (b1 + 23) cs (S1 3)), [((ad (b1 + 27)), .inl (cs 0, 3, .inl (S1 4 0)))]]) s.heap := hP
  replace hD : va_D A (fl [[((ad b1), .inr (4, [.ref (ad (b1 + 1)), .ref (ad (b1 + 6)), .ref (ad (b1 + 13)), .ref (ad (b1 + 23)), .ref (ad (b1 + 27)), .int (S1 4 1 0)]))], (w_X6 ad (b1 + 1) cs (S1 0)), (w_X1 ad (b1 + 6) cs (S1 1)), (w_X4 ad (b1 + 13) cs (S1 2)), (w_X8 ad (b1 + 23) cs (S1 3)), [((ad (b1 + 27)), .inl (cs 0, 3, .inl (S1 4 0)))]]) := hD
  refine cl_Vi (As := [.int p1]) (rest := []) (L := [[((ad b1), .inr (4, [.ref (ad (b1 + 1)), .ref (ad (b1 + 6)), .ref (ad (b1 + 13)), .ref (ad (b1 + 23)), .ref (ad (b1 + 27)), .int (S1 4 1 0)]))], (w_X6 ad (b1 + 1) cs (S1 0)), (w_X1 ad (b1 + 6) cs (S1 1)), (w_X4 ad (b1 + 13) cs (S1 2)), (w_X8 ad (b1 + 23) cs (S1 3)), [((ad (b1 + 27)), .inl (cs 0, 3, .inl (S1 4 0)))]]) (L' := [[((ad b1), .inr (4, [.ref (ad (b1 + 1)), .ref (ad (b1 + 6)), .ref (ad (b1 + 13)), .ref (ad (b1 + 23)), .ref (ad (b1 + 27)), .int (S1 4 1 0)]))], (w_X6 ad (b1 + 1) cs (S1 0)), (w_X1 ad (b1 + 6) cs (S1 1)), (w_X4 ad (b1 + 13) cs (S1 2)), (w_X8 ad (b1 + 23) cs (S1 3)), [((ad (b1 + 27)), .inl (cs 0, 3, .inl (S1 4 0)))]]) (Wc := [(w_X1 ad (b1 + 6) cs (S1 1))]) (Wc' := [(w_X1 ad (b1 + 6) cs (S1 1))]) (is := [2]) (js := [0, 1, 3, 4, 5]) ⟨hx, hb, hml, hown, hts⟩ (k_X1_has l dC dI cs ad (b1 + 6) s.heap.size (S1 1) p1 q5 gq5) (cwV 1 hts gX5_tellFaulty_X1_has rfl rfl rfl cd_X1_has ⟨Nat.le_of_ble_eq_true rfl, Nat.le_of_ble_eq_true rfl⟩) hK hP hD hS hA ⟨rfl, rfl, rfl, rfl, rfl, rfl⟩ (jn_nd (is := [2]) hD rfl rfl) 6 0 rfl rfl rfl rfl rfl hl.1 (Nat.le_of_ble_eq_true rfl) dX5_tellFaulty_5 (fun H5 locs5 hP' hD' hS' => ?_)
  replace hS := hS'
  replace hP : va_P (dC, dI) vwCl (fl [(w_X5 ad (b1) cs S1)]) H5 := hP'
  replace hD : va_D A (fl [(w_X5 ad (b1) cs S1)]) := hD'
  clear hP' hD' hS'
  refine lv_if_ne (tgt := 13) hx hb dX5_tellFaulty_8 (by decide) (fun c8 => ?_) (fun c8 => ?_)
  · replace hR := it_f hR c8
    refine lv_aload_n hx hb dX5_tellFaulty_13 rfl (lv_at hl 0 rfl) ?_
    refine va_get (D := (dC, dI)) (ci := 4) (v := .ref (ad (b1 + 6))) (C := RX5) (T := TX5) (N := 6) hx hb hts hinX5 hown hK hP 0 rfl rfl 1 (by decide) hF21 (fun _ h9 => h9) rfl dX5_tellFaulty_14 ?_
    refine va_get (D := (dC, dI)) (ci := 0) (v := .ref (ad (b1 + 6 + 1))) (C := RX1) (T := TX1) (N := 7) hx hb hts hinX1 hown hK hP 6 rfl rfl 1 (by decide) hF144 (fun _ h9 => h9) rfl dX5_tellFaulty_17 ?_
    refine lv_iload_n hx hb dX5_tellFaulty_20 rfl (lv_at hl 1 rfl) ?_
    replace hR := gi_e hR
    obtain ⟨i21, hR⟩ := hR
    refine va_iald hx hb hK hP 7 0 rfl rfl i21 dX5_tellFaulty_21 ?_
    refine lv_istore_n (lv' := [(2, .int (S1 1 0 p1.toNatClampNeg)), (0, .ref (ad b1)), (1, .int p1)]) hx hb dX5_tellFaulty_22 rfl hl (Nat.le_of_ble_eq_true rfl) rfl (fun ls hl => ?_)
    refine lv_iload_n hx hb dX5_tellFaulty_23 rfl (lv_at hl 0 rfl) ?_
    refine lv_if_eq (tgt := 32) hx hb dX5_tellFaulty_24 (by decide) (fun c24 => ?_) (fun c24 => ?_)
    · replace hR := it_t hR c24
      exact hB32 S1 H5 _ ls hR hP hD hS (lv_sub hl [1, 2] rfl)
    · replace hR := it_f hR c24
      refine lv_iload_n hx hb dX5_tellFaulty_27 rfl (lv_at hl 0 rfl) ?_
      refine lv_iconst (v := 1) hx hb dX5_tellFaulty_28 ic_1 ?_
      refine lv_icmp_ne (tgt := 36) hx hb dX5_tellFaulty_29 (by decide) (fun c29 => ?_) (fun c29 => ?_)
      · replace hR := it_f hR c29
        refine lv_iconst (v := 0) hx hb dX5_tellFaulty_36 ic_0 ?_
        exact hB37 S1 (0 : Int32) H5 _ ls hR hP hD hS (lv_sub hl [1, 2] rfl)
      · replace hR := it_t hR c29
        exact hB32 S1 H5 _ ls hR hP hD hS (lv_sub hl [1, 2] rfl)
  · replace hR := it_t hR c8
    refine lv_iconst (v := (-1)) hx hb dX5_tellFaulty_11 ic_m1 ?_
    replace hR := Option.some.inj hR
    obtain ⟨e9, hR⟩ := Prod.mk.inj hR
    have eu1 := hR
    replace hP : va_P (dC, dI) vwCl (fl [(w_X5 ad (b1) cs u1)]) H5 := by rw [← eu1]; exact hP
    replace hD : va_D A (fl [(w_X5 ad (b1) cs u1)]) := by rw [← eu1]; exact hD
    exact W.iret hx hb hr (fun t ht hW => ⟨⟨_, (), rfl, e9, by rw [ht]; exact hP, va_K.moved hW.alike hK, hD⟩, hS.F ht⟩) hS.2.2 dX5_tellFaulty_12
set_option maxHeartbeats 8000000 in
set_option maxRecDepth 100000 in
theorem k_X8_has (l : Launch) (dC : Nat → ClassId) (dI : Nat → Nat → Nat) (cs : Nat → ClassId) (ad : Nat → Nat) (b1 : Nat) (sz : Nat) (S1 : T2) (p1 : Int32) (r : Int32) (hR : fX8_has S1 p1 = some r) : Met l yX8_has wsX8_has ({ frames := 0, cells := 0, slots := 0, locals := 0 } : Room) (va_Pc [.ref (ad b1), .int p1] (pW dC dI (tyL cs) (fl [(w_X8 ad (b1) cs S1)]) sz)) (QI dC dI (tyL cs) (va_A (fl [(w_X8 ad (b1) cs S1)]) sz) (fl [(w_X8 ad (b1) cs S1)]) r) 0 0 (va_A (fl [(w_X8 ad (b1) cs S1)]) sz) := by
  refine mt_of (own := RX8) (cc := cX8_has) (maxL := 2) (ret := (some .boolean)) (Qc := fun A => QI dC dI (tyL cs) A (fl [(w_X8 ad (b1) cs S1)]) r) rfl (by decide) rfl (Nat.le_of_ble_eq_true rfl) (fun p e s m below meth c A ls hsz hx hb hr hts hown hlocks hml hA hK hP hD hS hl => ?_)
  subst hsz
  have hl : lv_has ls 2 [(0, .ref (ad b1)), (1, .int p1)] := hl
  have hF21 := hts (.fieldLink RX8 21 "DockedBikes$Vans" "size" "I") (List.mem_of_getElem? (i := 1) rfl)
  have hinX8 : ∀ w ∈ wsX80, w ∈ wsX8_has := by decide +kernel
  refine lv_iload_n hx hb dX8_has_0 rfl (lv_at hl 1 rfl) ?_
  refine lv_if_lt (tgt := 16) hx hb dX8_has_1 (by decide) (fun c1 => ?_) (fun c1 => ?_)
  · replace hR := it_t hR c1
    refine lv_iconst (v := 0) hx hb dX8_has_16 ic_0 ?_
    replace hR := Option.some.inj hR
    have e9 := hR
    exact W.zret (ty := .boolean) hx hb hr (by decide) (fun t ht hW => ⟨⟨_, (), rfl, e9, by rw [ht]; exact hP, va_K.moved hW.alike hK, hD⟩, hS.F ht⟩) hS.2.2 dX8_has_17
  · replace hR := it_f hR c1
    refine lv_iload_n hx hb dX8_has_4 rfl (lv_at hl 1 rfl) ?_
    refine lv_aload_n hx hb dX8_has_5 rfl (lv_at hl 0 rfl) ?_
    refine va_get (D := (dC, dI)) (ci := 7) (v := .int (S1 3 0)) (C := RX8) (T := TX8) (N := 4) hx hb hts hinX8 hown hK hP 0 rfl rfl 0 (by decide) hF21 (fun _ h9 => h9) rfl dX8_has_6 ?_
    refine lv_icmp_ge (tgt := 16) hx hb dX8_has_9 (by decide) (fun c9 => ?_) (fun c9 => ?_)
    · replace hR := it_t hR c9
      refine lv_iconst (v := 0) hx hb dX8_has_16 ic_0 ?_
      replace hR := Option.some.inj hR
      have e9 := hR
      exact W.zret (ty := .boolean) hx hb hr (by decide) (fun t ht hW => ⟨⟨_, (), rfl, e9, by rw [ht]; exact hP, va_K.moved hW.alike hK, hD⟩, hS.F ht⟩) hS.2.2 dX8_has_17
    · replace hR := it_f hR c9
      refine lv_iconst (v := 1) hx hb dX8_has_12 ic_1 ?_
      refine lv_goto (tgt := 17) hx hb dX8_has_13 (by decide) ?_
      replace hR := Option.some.inj hR
      have e9 := hR
      exact W.zret (ty := .boolean) hx hb hr (by decide) (fun t ht hW => ⟨⟨_, (), rfl, e9, by rw [ht]; exact hP, va_K.moved hW.alike hK, hD⟩, hS.F ht⟩) hS.2.2 dX8_has_17
set_option maxHeartbeats 8000000 in
set_option maxRecDepth 100000 in
theorem k_X5_isUnderWay (l : Launch) (dC : Nat → ClassId) (dI : Nat → Nat → Nat) (cs : Nat → ClassId) (ad : Nat → Nat) (b1 : Nat) (sz : Nat) (S1 : T3) (p1 : Int32) (r : Int32) (hR : fX5_isUnderWay S1 p1 = some r) : Met l yX5_isUnderWay wsX5_isUnderWay ({ frames := 1, cells := 0, slots := 0, locals := 21 } : Room) (va_Pc [.ref (ad b1), .int p1] (pW dC dI (tyL cs) (fl [(w_X5 ad (b1) cs S1)]) sz)) (QI dC dI (tyL cs) (va_A (fl [(w_X5 ad (b1) cs S1)]) sz) (fl [(w_X5 ad (b1) cs S1)]) r) 0 0 (va_A (fl [(w_X5 ad (b1) cs S1)]) sz) := by
  refine mt_of (own := RX5) (cc := cX5_isUnderWay) (maxL := 2) (ret := (some .boolean)) (Qc := fun A => QI dC dI (tyL cs) A (fl [(w_X5 ad (b1) cs S1)]) r) rfl (by decide) rfl (Nat.le_of_ble_eq_true rfl) (fun p e s m below meth c A ls hsz hx hb hr hts hown hlocks hml hA hK hP hD hS hl => ?_)
  subst hsz
  have hl : lv_has ls 2 [(0, .ref (ad b1)), (1, .int p1)] := hl
  have hF35 := hts (.fieldLink RX5 35 "DockedBikes$Road" "vans" "LDockedBikes$Vans;") (List.mem_of_getElem? (i := 1) rfl)
  have hF62 := hts (.fieldLink RX5 62 "DockedBikes$Road" "time" "I") (List.mem_of_getElem? (i := 3) rfl)
  have hF177 := hts (.fieldLink RX5 177 "DockedBikes$Vans" "arrival" "[I") (List.mem_of_getElem? (i := 2) rfl)
  have hinX5 : ∀ w ∈ wsX50, w ∈ wsX5_isUnderWay := by decide +kernel
  have hinX8 : ∀ w ∈ wsX80, w ∈ wsX5_isUnderWay := by decide +kernel
  refine lv_aload_n hx hb dX5_isUnderWay_0 rfl (lv_at hl 0 rfl) ?_
  refine va_get (D := (dC, dI)) (ci := 4) (v := .ref (ad (b1 + 23))) (C := RX5) (T := TX5) (N := 6) hx hb hts hinX5 hown hK hP 0 rfl rfl 3 (by decide) hF35 (fun _ h9 => h9) rfl dX5_isUnderWay_1 ?_
  refine lv_iload_n hx hb dX5_isUnderWay_4 rfl (lv_at hl 1 rfl) ?_
  replace hR := bd_e hR
  obtain ⟨q5, gq5, hR⟩ := hR
  replace hP : va_P (dC, dI) vwCl (fl [[((ad b1), .inr (4, [.ref (ad (b1 + 1)), .ref (ad (b1 + 6)), .ref (ad (b1 + 13)), .ref (ad (b1 + 23)), .ref (ad (b1 + 27)), .int (S1 4 1 0)]))], (w_X6 ad (b1 + 1) cs (S1 0)), (w_X1 ad (b1 + 6) cs (S1 1)), (w_X4 ad (b1 + 13) cs (S1 2)), (w_X8 ad (b1 + 23) cs (S1 3)), [((ad (b1 + 27)), .inl (cs 0, 3, .inl (S1 4 0)))]]) s.heap := hP
  replace hD : va_D A (fl [[((ad b1), .inr (4, [.ref (ad (b1 + 1)), .ref (ad (b1 + 6)), .ref (ad (b1 + 13)), .ref (ad (b1 + 23)), .ref (ad (b1 + 27)), .int (S1 4 1 0)]))], (w_X6 ad (b1 + 1) cs (S1 0)), (w_X1 ad (b1 + 6) cs (S1 1)), (w_X4 ad (b1 + 13) cs (S1 2)), (w_X8 ad (b1 + 23) cs (S1 3)), [((ad (b1 + 27)), .inl (cs 0, 3, .inl (S1 4 0)))]]) := hD
  refine cl_Vi (As := [.int p1]) (rest := []) (L := [[((ad b1), .inr (4, [.ref (ad (b1 + 1)), .ref (ad (b1 + 6)), .ref (ad (b1 + 13)), .ref (ad (b1 + 23)), .ref (ad (b1 + 27)), .int (S1 4 1 0)]))], (w_X6 ad (b1 + 1) cs (S1 0)), (w_X1 ad (b1 + 6) cs (S1 1)), (w_X4 ad (b1 + 13) cs (S1 2)), (w_X8 ad (b1 + 23) cs (S1 3)), [((ad (b1 + 27)), .inl (cs 0, 3, .inl (S1 4 0)))]]) (L' := [[((ad b1), .inr (4, [.ref (ad (b1 + 1)), .ref (ad (b1 + 6)), .ref (ad (b1 + 13)), .ref (ad (b1 + 23)), .ref (ad (b1 + 27)), .int (S1 4 1 0)]))], (w_X6 ad (b1 + 1) cs (S1 0)), (w_X1 ad (b1 + 6) cs (S1 1)), (w_X4 ad (b1 + 13) cs (S1 2)), (w_X8 ad (b1 + 23) cs (S1 3)), [((ad (b1 + 27)), .inl (cs 0, 3, .inl (S1 4 0)))]]) (Wc := [(w_X8 ad (b1 + 23) cs (S1 3))]) (Wc' := [(w_X8 ad (b1 + 23) cs (S1 3))]) (is := [4]) (js := [0, 1, 2, 3, 5]) ⟨hx, hb, hml, hown, hts⟩ (k_X8_has l dC dI cs ad (b1 + 23) s.heap.size (S1 3) p1 q5 gq5) (cwV 1 hts gX5_isUnderWay_X8_has rfl rfl rfl cd_X8_has ⟨Nat.le_of_ble_eq_true rfl, Nat.le_of_ble_eq_true rfl⟩) hK hP hD hS hA ⟨rfl, rfl, rfl, rfl, rfl, rfl⟩ (jn_nd (is := [4]) hD rfl rfl) 23 7 rfl rfl rfl rfl rfl hl.1 (Nat.le_of_ble_eq_true rfl) dX5_isUnderWay_5 (fun H5 locs5 hP' hD' hS' => ?_)
  replace hS := hS'
  replace hP : va_P (dC, dI) vwCl (fl [(w_X5 ad (b1) cs S1)]) H5 := hP'
  replace hD : va_D A (fl [(w_X5 ad (b1) cs S1)]) := hD'
  clear hP' hD' hS'
  refine lv_if_eq (tgt := 31) hx hb dX5_isUnderWay_8 (by decide) (fun c8 => ?_) (fun c8 => ?_)
  · replace hR := it_t hR c8
    refine lv_iconst (v := 0) hx hb dX5_isUnderWay_31 ic_0 ?_
    replace hR := Option.some.inj hR
    have e9 := hR
    exact W.zret (ty := .boolean) hx hb hr (by decide) (fun t ht hW => ⟨⟨_, (), rfl, e9, by rw [ht]; exact hP, va_K.moved hW.alike hK, hD⟩, hS.F ht⟩) hS.2.2 dX5_isUnderWay_32
  · replace hR := it_f hR c8
    refine lv_aload_n hx hb dX5_isUnderWay_11 rfl (lv_at hl 0 rfl) ?_
    refine va_get (D := (dC, dI)) (ci := 4) (v := .ref (ad (b1 + 23))) (C := RX5) (T := TX5) (N := 6) hx hb hts hinX5 hown hK hP 0 rfl rfl 3 (by decide) hF35 (fun _ h9 => h9) rfl dX5_isUnderWay_12 ?_
    refine va_get (D := (dC, dI)) (ci := 7) (v := .ref (ad (b1 + 23 + 3))) (C := RX8) (T := TX8) (N := 4) hx hb hts hinX8 hown hK hP 23 rfl rfl 3 (by decide) hF177 (fun _ h9 => h9) rfl dX5_isUnderWay_15 ?_
    refine lv_iload_n hx hb dX5_isUnderWay_18 rfl (lv_at hl 1 rfl) ?_
    replace hR := gi_e hR
    obtain ⟨i19, hR⟩ := hR
    refine va_iald hx hb hK hP 26 0 rfl rfl i19 dX5_isUnderWay_19 ?_
    refine lv_aload_n hx hb dX5_isUnderWay_20 rfl (lv_at hl 0 rfl) ?_
    refine va_get (D := (dC, dI)) (ci := 4) (v := .int (S1 4 1 0)) (C := RX5) (T := TX5) (N := 6) hx hb hts hinX5 hown hK hP 0 rfl rfl 5 (by decide) hF62 (fun _ h9 => h9) rfl dX5_isUnderWay_21 ?_
    refine lv_icmp_le (tgt := 31) hx hb dX5_isUnderWay_24 (by decide) (fun c24 => ?_) (fun c24 => ?_)
    · replace hR := it_t hR c24
      refine lv_iconst (v := 0) hx hb dX5_isUnderWay_31 ic_0 ?_
      replace hR := Option.some.inj hR
      have e9 := hR
      exact W.zret (ty := .boolean) hx hb hr (by decide) (fun t ht hW => ⟨⟨_, (), rfl, e9, by rw [ht]; exact hP, va_K.moved hW.alike hK, hD⟩, hS.F ht⟩) hS.2.2 dX5_isUnderWay_32
    · replace hR := it_f hR c24
      refine lv_iconst (v := 1) hx hb dX5_isUnderWay_27 ic_1 ?_
      refine lv_goto (tgt := 32) hx hb dX5_isUnderWay_28 (by decide) ?_
      replace hR := Option.some.inj hR
      have e9 := hR
      exact W.zret (ty := .boolean) hx hb hr (by decide) (fun t ht hW => ⟨⟨_, (), rfl, e9, by rw [ht]; exact hP, va_K.moved hW.alike hK, hD⟩, hS.F ht⟩) hS.2.2 dX5_isUnderWay_32
set_option maxHeartbeats 8000000 in
set_option maxRecDepth 100000 in
theorem k_X5_load (l : Launch) (dC : Nat → ClassId) (dI : Nat → Nat → Nat) (cs : Nat → ClassId) (ad : Nat → Nat) (b1 : Nat) (sz : Nat) (S1 : T3) (p1 : Int32) (p2 : Int32) (r : Int32) (u1 : T3) (hR : fX5_load S1 p1 p2 = some (r, u1)) : Met l yX5_load wsX5_load ({ frames := 2, cells := 0, slots := 0, locals := 44 } : Room) (va_Pc [.ref (ad b1), .int p1, .int p2] (pW dC dI (tyL cs) (fl [(w_X5 ad (b1) cs S1)]) sz)) (QI dC dI (tyL cs) (va_A (fl [(w_X5 ad (b1) cs S1)]) sz) (fl [(w_X5 ad (b1) cs u1)]) r) 0 0 (va_A (fl [(w_X5 ad (b1) cs S1)]) sz) := by
  refine mt_of (own := RX5) (cc := cX5_load) (maxL := 5) (ret := (some .int)) (Qc := fun A => QI dC dI (tyL cs) A (fl [(w_X5 ad (b1) cs u1)]) r) rfl (by decide) rfl (Nat.le_of_ble_eq_true rfl) (fun p e s m below meth c A ls hsz hx hb hr hts hown hlocks hml hA hK hP hD hS hl => ?_)
  subst hsz
  have hl : lv_has ls 5 [(0, .ref (ad b1)), (1, .int p1), (2, .int p2)] := hl
  have hF21 := hts (.fieldLink RX5 21 "DockedBikes$Road" "bicycles" "LDockedBikes$Bicycles;") (List.mem_of_getElem? (i := 2) rfl)
  have hF35 := hts (.fieldLink RX5 35 "DockedBikes$Road" "vans" "LDockedBikes$Vans;") (List.mem_of_getElem? (i := 1) rfl)
  have hF157 := hts (.fieldLink RX5 157 "DockedBikes$Vans" "station" "[I") (List.mem_of_getElem? (i := 3) rfl)
  have hF167 := hts (.fieldLink RX5 167 "DockedBikes$Vans" "room" "[I") (List.mem_of_getElem? (i := 4) rfl)
  have hinX5 : ∀ w ∈ wsX50, w ∈ wsX5_load := by decide +kernel
  have hinX8 : ∀ w ∈ wsX80, w ∈ wsX5_load := by decide +kernel
  refine lv_aload_n hx hb dX5_load_0 rfl (lv_at hl 0 rfl) ?_
  refine va_get (D := (dC, dI)) (ci := 4) (v := .ref (ad (b1 + 23))) (C := RX5) (T := TX5) (N := 6) hx hb hts hinX5 hown hK hP 0 rfl rfl 3 (by decide) hF35 (fun _ h9 => h9) rfl dX5_load_1 ?_
  refine lv_iload_n hx hb dX5_load_4 rfl (lv_at hl 1 rfl) ?_
  replace hR := bd_e hR
  obtain ⟨q5, gq5, hR⟩ := hR
  replace hP : va_P (dC, dI) vwCl (fl [[((ad b1), .inr (4, [.ref (ad (b1 + 1)), .ref (ad (b1 + 6)), .ref (ad (b1 + 13)), .ref (ad (b1 + 23)), .ref (ad (b1 + 27)), .int (S1 4 1 0)]))], (w_X6 ad (b1 + 1) cs (S1 0)), (w_X1 ad (b1 + 6) cs (S1 1)), (w_X4 ad (b1 + 13) cs (S1 2)), (w_X8 ad (b1 + 23) cs (S1 3)), [((ad (b1 + 27)), .inl (cs 0, 3, .inl (S1 4 0)))]]) s.heap := hP
  replace hD : va_D A (fl [[((ad b1), .inr (4, [.ref (ad (b1 + 1)), .ref (ad (b1 + 6)), .ref (ad (b1 + 13)), .ref (ad (b1 + 23)), .ref (ad (b1 + 27)), .int (S1 4 1 0)]))], (w_X6 ad (b1 + 1) cs (S1 0)), (w_X1 ad (b1 + 6) cs (S1 1)), (w_X4 ad (b1 + 13) cs (S1 2)), (w_X8 ad (b1 + 23) cs (S1 3)), [((ad (b1 + 27)), .inl (cs 0, 3, .inl (S1 4 0)))]]) := hD
  refine cl_Vi (As := [.int p1]) (rest := []) (L := [[((ad b1), .inr (4, [.ref (ad (b1 + 1)), .ref (ad (b1 + 6)), .ref (ad (b1 + 13)), .ref (ad (b1 + 23)), .ref (ad (b1 + 27)), .int (S1 4 1 0)]))], (w_X6 ad (b1 + 1) cs (S1 0)), (w_X1 ad (b1 + 6) cs (S1 1)), (w_X4 ad (b1 + 13) cs (S1 2)), (w_X8 ad (b1 + 23) cs (S1 3)), [((ad (b1 + 27)), .inl (cs 0, 3, .inl (S1 4 0)))]]) (L' := [[((ad b1), .inr (4, [.ref (ad (b1 + 1)), .ref (ad (b1 + 6)), .ref (ad (b1 + 13)), .ref (ad (b1 + 23)), .ref (ad (b1 + 27)), .int (S1 4 1 0)]))], (w_X6 ad (b1 + 1) cs (S1 0)), (w_X1 ad (b1 + 6) cs (S1 1)), (w_X4 ad (b1 + 13) cs (S1 2)), (w_X8 ad (b1 + 23) cs (S1 3)), [((ad (b1 + 27)), .inl (cs 0, 3, .inl (S1 4 0)))]]) (Wc := [(w_X8 ad (b1 + 23) cs (S1 3))]) (Wc' := [(w_X8 ad (b1 + 23) cs (S1 3))]) (is := [4]) (js := [0, 1, 2, 3, 5]) ⟨hx, hb, hml, hown, hts⟩ (k_X8_has l dC dI cs ad (b1 + 23) s.heap.size (S1 3) p1 q5 gq5) (cwV 1 hts gX5_load_X8_has rfl rfl rfl cd_X8_has ⟨Nat.le_of_ble_eq_true rfl, Nat.le_of_ble_eq_true rfl⟩) hK hP hD hS hA ⟨rfl, rfl, rfl, rfl, rfl, rfl⟩ (jn_nd (is := [4]) hD rfl rfl) 23 7 rfl rfl rfl rfl rfl hl.1 (Nat.le_of_ble_eq_true rfl) dX5_load_5 (fun H5 locs5 hP' hD' hS' => ?_)
  replace hS := hS'
  replace hP : va_P (dC, dI) vwCl (fl [(w_X5 ad (b1) cs S1)]) H5 := hP'
  replace hD : va_D A (fl [(w_X5 ad (b1) cs S1)]) := hD'
  clear hP' hD' hS'
  refine lv_if_eq (tgt := 22) hx hb dX5_load_8 (by decide) (fun c8 => ?_) (fun c8 => ?_)
  · replace hR := it_t hR c8
    refine lv_iconst (v := (-1)) hx hb dX5_load_22 ic_m1 ?_
    replace hR := Option.some.inj hR
    obtain ⟨e9, hR⟩ := Prod.mk.inj hR
    have eu1 := hR
    replace hP : va_P (dC, dI) vwCl (fl [(w_X5 ad (b1) cs u1)]) H5 := by rw [← eu1]; exact hP
    replace hD : va_D A (fl [(w_X5 ad (b1) cs u1)]) := by rw [← eu1]; exact hD
    exact W.iret hx hb hr (fun t ht hW => ⟨⟨_, (), rfl, e9, by rw [ht]; exact hP, va_K.moved hW.alike hK, hD⟩, hS.F ht⟩) hS.2.2 dX5_load_23
  · replace hR := it_f hR c8
    refine lv_aload_n hx hb dX5_load_11 rfl (lv_at hl 0 rfl) ?_
    refine va_get (D := (dC, dI)) (ci := 4) (v := .ref (ad (b1 + 6))) (C := RX5) (T := TX5) (N := 6) hx hb hts hinX5 hown hK hP 0 rfl rfl 1 (by decide) hF21 (fun _ h9 => h9) rfl dX5_load_12 ?_
    refine lv_iload_n hx hb dX5_load_15 rfl (lv_at hl 2 rfl) ?_
    replace hR := bd_e hR
    obtain ⟨q16, gq16, hR⟩ := hR
    replace hP : va_P (dC, dI) vwCl (fl [[((ad b1), .inr (4, [.ref (ad (b1 + 1)), .ref (ad (b1 + 6)), .ref (ad (b1 + 13)), .ref (ad (b1 + 23)), .ref (ad (b1 + 27)), .int (S1 4 1 0)]))], (w_X6 ad (b1 + 1) cs (S1 0)), (w_X1 ad (b1 + 6) cs (S1 1)), (w_X4 ad (b1 + 13) cs (S1 2)), (w_X8 ad (b1 + 23) cs (S1 3)), [((ad (b1 + 27)), .inl (cs 0, 3, .inl (S1 4 0)))]]) H5 := hP
    replace hD : va_D A (fl [[((ad b1), .inr (4, [.ref (ad (b1 + 1)), .ref (ad (b1 + 6)), .ref (ad (b1 + 13)), .ref (ad (b1 + 23)), .ref (ad (b1 + 27)), .int (S1 4 1 0)]))], (w_X6 ad (b1 + 1) cs (S1 0)), (w_X1 ad (b1 + 6) cs (S1 1)), (w_X4 ad (b1 + 13) cs (S1 2)), (w_X8 ad (b1 + 23) cs (S1 3)), [((ad (b1 + 27)), .inl (cs 0, 3, .inl (S1 4 0)))]]) := hD
    refine cl_Vi (As := [.int p2]) (rest := []) (L := [[((ad b1), .inr (4, [.ref (ad (b1 + 1)), .ref (ad (b1 + 6)), .ref (ad (b1 + 13)), .ref (ad (b1 + 23)), .ref (ad (b1 + 27)), .int (S1 4 1 0)]))], (w_X6 ad (b1 + 1) cs (S1 0)), (w_X1 ad (b1 + 6) cs (S1 1)), (w_X4 ad (b1 + 13) cs (S1 2)), (w_X8 ad (b1 + 23) cs (S1 3)), [((ad (b1 + 27)), .inl (cs 0, 3, .inl (S1 4 0)))]]) (L' := [[((ad b1), .inr (4, [.ref (ad (b1 + 1)), .ref (ad (b1 + 6)), .ref (ad (b1 + 13)), .ref (ad (b1 + 23)), .ref (ad (b1 + 27)), .int (S1 4 1 0)]))], (w_X6 ad (b1 + 1) cs (S1 0)), (w_X1 ad (b1 + 6) cs (S1 1)), (w_X4 ad (b1 + 13) cs (S1 2)), (w_X8 ad (b1 + 23) cs (S1 3)), [((ad (b1 + 27)), .inl (cs 0, 3, .inl (S1 4 0)))]]) (Wc := [(w_X1 ad (b1 + 6) cs (S1 1))]) (Wc' := [(w_X1 ad (b1 + 6) cs (S1 1))]) (is := [2]) (js := [0, 1, 3, 4, 5]) ⟨hx, hb, hml, hown, hts⟩ (k_X1_has l dC dI cs ad (b1 + 6) H5.size (S1 1) p2 q16 gq16) (cwV 1 hts gX5_load_X1_has rfl rfl rfl cd_X1_has ⟨Nat.le_of_ble_eq_true rfl, Nat.le_of_ble_eq_true rfl⟩) hK hP hD hS hA ⟨rfl, rfl, rfl, rfl, rfl, rfl⟩ (jn_nd (is := [2]) hD rfl rfl) 6 0 rfl rfl rfl rfl rfl hl.1 (Nat.le_of_ble_eq_true rfl) dX5_load_16 (fun H16 locs16 hP' hD' hS' => ?_)
    replace hS := hS'
    replace hP : va_P (dC, dI) vwCl (fl [(w_X5 ad (b1) cs S1)]) H16 := hP'
    replace hD : va_D A (fl [(w_X5 ad (b1) cs S1)]) := hD'
    clear hP' hD' hS'
    refine lv_if_ne (tgt := 24) hx hb dX5_load_19 (by decide) (fun c19 => ?_) (fun c19 => ?_)
    · replace hR := it_f hR c19
      refine lv_aload_n hx hb dX5_load_24 rfl (lv_at hl 0 rfl) ?_
      refine va_get (D := (dC, dI)) (ci := 4) (v := .ref (ad (b1 + 6))) (C := RX5) (T := TX5) (N := 6) hx hb hts hinX5 hown hK hP 0 rfl rfl 1 (by decide) hF21 (fun _ h9 => h9) rfl dX5_load_25 ?_
      refine lv_iconst (v := 2) hx hb dX5_load_28 ic_2 ?_
      refine lv_iload_n hx hb dX5_load_29 rfl (lv_at hl 1 rfl) ?_
      replace hR := bd_e hR
      obtain ⟨q30, gq30, hR⟩ := hR
      replace hP : va_P (dC, dI) vwCl (fl [[((ad b1), .inr (4, [.ref (ad (b1 + 1)), .ref (ad (b1 + 6)), .ref (ad (b1 + 13)), .ref (ad (b1 + 23)), .ref (ad (b1 + 27)), .int (S1 4 1 0)]))], (w_X6 ad (b1 + 1) cs (S1 0)), (w_X1 ad (b1 + 6) cs (S1 1)), (w_X4 ad (b1 + 13) cs (S1 2)), (w_X8 ad (b1 + 23) cs (S1 3)), [((ad (b1 + 27)), .inl (cs 0, 3, .inl (S1 4 0)))]]) H16 := hP
      replace hD : va_D A (fl [[((ad b1), .inr (4, [.ref (ad (b1 + 1)), .ref (ad (b1 + 6)), .ref (ad (b1 + 13)), .ref (ad (b1 + 23)), .ref (ad (b1 + 27)), .int (S1 4 1 0)]))], (w_X6 ad (b1 + 1) cs (S1 0)), (w_X1 ad (b1 + 6) cs (S1 1)), (w_X4 ad (b1 + 13) cs (S1 2)), (w_X8 ad (b1 + 23) cs (S1 3)), [((ad (b1 + 27)), .inl (cs 0, 3, .inl (S1 4 0)))]]) := hD
      refine cl_Vi (As := [.int (2 : Int32), .int p1]) (rest := []) (L := [[((ad b1), .inr (4, [.ref (ad (b1 + 1)), .ref (ad (b1 + 6)), .ref (ad (b1 + 13)), .ref (ad (b1 + 23)), .ref (ad (b1 + 27)), .int (S1 4 1 0)]))], (w_X6 ad (b1 + 1) cs (S1 0)), (w_X1 ad (b1 + 6) cs (S1 1)), (w_X4 ad (b1 + 13) cs (S1 2)), (w_X8 ad (b1 + 23) cs (S1 3)), [((ad (b1 + 27)), .inl (cs 0, 3, .inl (S1 4 0)))]]) (L' := [[((ad b1), .inr (4, [.ref (ad (b1 + 1)), .ref (ad (b1 + 6)), .ref (ad (b1 + 13)), .ref (ad (b1 + 23)), .ref (ad (b1 + 27)), .int (S1 4 1 0)]))], (w_X6 ad (b1 + 1) cs (S1 0)), (w_X1 ad (b1 + 6) cs (S1 1)), (w_X4 ad (b1 + 13) cs (S1 2)), (w_X8 ad (b1 + 23) cs (S1 3)), [((ad (b1 + 27)), .inl (cs 0, 3, .inl (S1 4 0)))]]) (Wc := [(w_X1 ad (b1 + 6) cs (S1 1))]) (Wc' := [(w_X1 ad (b1 + 6) cs (S1 1))]) (is := [2]) (js := [0, 1, 3, 4, 5]) ⟨hx, hb, hml, hown, hts⟩ (k_X1_countAt l dC dI cs ad (b1 + 6) H16.size (S1 1) (2 : Int32) p1 q30 gq30) (cwV 2 hts gX5_load_X1_countAt rfl rfl rfl cd_X1_countAt ⟨Nat.le_of_ble_eq_true rfl, Nat.le_of_ble_eq_true rfl⟩) hK hP hD hS hA ⟨rfl, rfl, rfl, rfl, rfl, rfl⟩ (jn_nd (is := [2]) hD rfl rfl) 6 0 rfl rfl rfl rfl rfl hl.1 (Nat.le_of_ble_eq_true rfl) dX5_load_30 (fun H30 locs30 hP' hD' hS' => ?_)
      replace hS := hS'
      replace hP : va_P (dC, dI) vwCl (fl [(w_X5 ad (b1) cs S1)]) H30 := hP'
      replace hD : va_D A (fl [(w_X5 ad (b1) cs S1)]) := hD'
      clear hP' hD' hS'
      refine lv_istore_n (lv' := [(3, .int q30), (0, .ref (ad b1)), (1, .int p1), (2, .int p2)]) hx hb dX5_load_33 rfl hl (Nat.le_of_ble_eq_true rfl) rfl (fun ls hl => ?_)
      refine lv_aload_n hx hb dX5_load_34 rfl (lv_at hl 1 rfl) ?_
      refine va_get (D := (dC, dI)) (ci := 4) (v := .ref (ad (b1 + 6))) (C := RX5) (T := TX5) (N := 6) hx hb hts hinX5 hown hK hP 0 rfl rfl 1 (by decide) hF21 (fun _ h9 => h9) rfl dX5_load_35 ?_
      refine lv_iload_n hx hb dX5_load_38 rfl (lv_at hl 3 rfl) ?_
      refine lv_iconst (v := 0) hx hb dX5_load_39 ic_0 ?_
      refine lv_aload_n hx hb dX5_load_40 rfl (lv_at hl 1 rfl) ?_
      refine va_get (D := (dC, dI)) (ci := 4) (v := .ref (ad (b1 + 23))) (C := RX5) (T := TX5) (N := 6) hx hb hts hinX5 hown hK hP 0 rfl rfl 3 (by decide) hF35 (fun _ h9 => h9) rfl dX5_load_41 ?_
      refine va_get (D := (dC, dI)) (ci := 7) (v := .ref (ad (b1 + 23 + 1))) (C := RX8) (T := TX8) (N := 4) hx hb hts hinX8 hown hK hP 23 rfl rfl 1 (by decide) hF157 (fun _ h9 => h9) rfl dX5_load_44 ?_
      refine lv_iload_n hx hb dX5_load_47 rfl (lv_at hl 2 rfl) ?_
      replace hR := gi_e hR
      obtain ⟨i48, hR⟩ := hR
      refine va_iald hx hb hK hP 24 0 rfl rfl i48 dX5_load_48 ?_
      replace hR := bd_e hR
      obtain ⟨q49, gq49, hR⟩ := hR
      replace hP : va_P (dC, dI) vwCl (fl [[((ad b1), .inr (4, [.ref (ad (b1 + 1)), .ref (ad (b1 + 6)), .ref (ad (b1 + 13)), .ref (ad (b1 + 23)), .ref (ad (b1 + 27)), .int (S1 4 1 0)]))], (w_X6 ad (b1 + 1) cs (S1 0)), (w_X1 ad (b1 + 6) cs (S1 1)), (w_X4 ad (b1 + 13) cs (S1 2)), (w_X8 ad (b1 + 23) cs (S1 3)), [((ad (b1 + 27)), .inl (cs 0, 3, .inl (S1 4 0)))]]) H30 := hP
      replace hD : va_D A (fl [[((ad b1), .inr (4, [.ref (ad (b1 + 1)), .ref (ad (b1 + 6)), .ref (ad (b1 + 13)), .ref (ad (b1 + 23)), .ref (ad (b1 + 27)), .int (S1 4 1 0)]))], (w_X6 ad (b1 + 1) cs (S1 0)), (w_X1 ad (b1 + 6) cs (S1 1)), (w_X4 ad (b1 + 13) cs (S1 2)), (w_X8 ad (b1 + 23) cs (S1 3)), [((ad (b1 + 27)), .inl (cs 0, 3, .inl (S1 4 0)))]]) := hD
      refine cl_Vi (As := [.int p2, .int (0 : Int32), .int (S1 3 0 p1.toNatClampNeg)]) (rest := []) (L := [[((ad b1), .inr (4, [.ref (ad (b1 + 1)), .ref (ad (b1 + 6)), .ref (ad (b1 + 13)), .ref (ad (b1 + 23)), .ref (ad (b1 + 27)), .int (S1 4 1 0)]))], (w_X6 ad (b1 + 1) cs (S1 0)), (w_X1 ad (b1 + 6) cs (S1 1)), (w_X4 ad (b1 + 13) cs (S1 2)), (w_X8 ad (b1 + 23) cs (S1 3)), [((ad (b1 + 27)), .inl (cs 0, 3, .inl (S1 4 0)))]]) (L' := [[((ad b1), .inr (4, [.ref (ad (b1 + 1)), .ref (ad (b1 + 6)), .ref (ad (b1 + 13)), .ref (ad (b1 + 23)), .ref (ad (b1 + 27)), .int (S1 4 1 0)]))], (w_X6 ad (b1 + 1) cs (S1 0)), (w_X1 ad (b1 + 6) cs (S1 1)), (w_X4 ad (b1 + 13) cs (S1 2)), (w_X8 ad (b1 + 23) cs (S1 3)), [((ad (b1 + 27)), .inl (cs 0, 3, .inl (S1 4 0)))]]) (Wc := [(w_X1 ad (b1 + 6) cs (S1 1))]) (Wc' := [(w_X1 ad (b1 + 6) cs (S1 1))]) (is := [2]) (js := [0, 1, 3, 4, 5]) ⟨hx, hb, hml, hown, hts⟩ (k_X1_isAt l dC dI cs ad (b1 + 6) H30.size (S1 1) p2 (0 : Int32) (S1 3 0 p1.toNatClampNeg) q49 gq49) (cwV 3 hts gX5_load_X1_isAt rfl rfl rfl cd_X1_isAt ⟨Nat.le_of_ble_eq_true rfl, Nat.le_of_ble_eq_true rfl⟩) hK hP hD hS hA ⟨rfl, rfl, rfl, rfl, rfl, rfl⟩ (jn_nd (is := [2]) hD rfl rfl) 6 0 rfl rfl rfl rfl rfl hl.1 (Nat.le_of_ble_eq_true rfl) dX5_load_49 (fun H49 locs49 hP' hD' hS' => ?_)
      replace hS := hS'
      replace hP : va_P (dC, dI) vwCl (fl [(w_X5 ad (b1) cs S1)]) H49 := hP'
      replace hD : va_D A (fl [(w_X5 ad (b1) cs S1)]) := hD'
      clear hP' hD' hS'
      refine lv_istore (lv' := [(4, .int q49), (3, .int q30), (0, .ref (ad b1)), (1, .int p1), (2, .int p2)]) hx hb dX5_load_52 hl (Nat.le_of_ble_eq_true rfl) rfl (fun ls hl => ?_)
      refine lv_aload_n hx hb dX5_load_54 rfl (lv_at hl 2 rfl) ?_
      refine lv_iload_n hx hb dX5_load_55 rfl (lv_at hl 3 rfl) ?_
      replace hR := bd_e hR
      obtain ⟨q56, gq56, hR⟩ := hR
      refine cl_Vi (As := [.int p1]) (rest := []) (L := [(w_X5 ad (b1) cs S1)]) (L' := [(w_X5 ad (b1) cs S1)]) (Wc := [(w_X5 ad (b1) cs S1)]) (Wc' := [(w_X5 ad (b1) cs S1)]) (is := [0]) (js := []) ⟨hx, hb, hml, hown, hts⟩ (k_X5_isUnderWay l dC dI cs ad (b1) H49.size S1 p1 q56 gq56) (cwV 1 hts gX5_load_X5_isUnderWay rfl rfl rfl cd_X5_isUnderWay ⟨Nat.le_of_ble_eq_true rfl, Nat.le_of_ble_eq_true rfl⟩) hK hP hD hS hA ⟨rfl, rfl, rfl, rfl, rfl, rfl⟩ (jn_nd (is := [0]) hD rfl rfl) 0 4 rfl rfl rfl rfl rfl hl.1 (Nat.le_of_ble_eq_true rfl) dX5_load_56 (fun H56 locs56 hP' hD' hS' => ?_)
      replace hS := hS'
      replace hP : va_P (dC, dI) vwCl (fl [(w_X5 ad (b1) cs S1)]) H56 := hP'
      replace hD : va_D A (fl [(w_X5 ad (b1) cs S1)]) := hD'
      clear hP' hD' hS'
      refine lv_if_ne (tgt := 80) hx hb dX5_load_59 (by decide) (fun c59 => ?_) (fun c59 => ?_)
      · replace hR := it_f hR c59
        refine lv_bipush (v := (-2)) hx hb dX5_load_80 bp_m2 ?_
        replace hR := Option.some.inj hR
        obtain ⟨e9, hR⟩ := Prod.mk.inj hR
        have eu1 := hR
        replace hP : va_P (dC, dI) vwCl (fl [(w_X5 ad (b1) cs u1)]) H56 := by rw [← eu1]; exact hP
        replace hD : va_D A (fl [(w_X5 ad (b1) cs u1)]) := by rw [← eu1]; exact hD
        exact W.iret hx hb hr (fun t ht hW => ⟨⟨_, (), rfl, e9, by rw [ht]; exact hP, va_K.moved hW.alike hK, hD⟩, hS.F ht⟩) hS.2.2 dX5_load_82
      · replace hR := it_t hR c59
        refine lv_iload_n hx hb dX5_load_62 rfl (lv_at hl 1 rfl) ?_
        refine lv_aload_n hx hb dX5_load_63 rfl (lv_at hl 2 rfl) ?_
        refine va_get (D := (dC, dI)) (ci := 4) (v := .ref (ad (b1 + 23))) (C := RX5) (T := TX5) (N := 6) hx hb hts hinX5 hown hK hP 0 rfl rfl 3 (by decide) hF35 (fun _ h9 => h9) rfl dX5_load_64 ?_
        refine va_get (D := (dC, dI)) (ci := 7) (v := .ref (ad (b1 + 23 + 2))) (C := RX8) (T := TX8) (N := 4) hx hb hts hinX8 hown hK hP 23 rfl rfl 2 (by decide) hF167 (fun _ h9 => h9) rfl dX5_load_67 ?_
        refine lv_iload_n hx hb dX5_load_70 rfl (lv_at hl 3 rfl) ?_
        replace hR := gi_e hR
        obtain ⟨i71, hR⟩ := hR
        refine va_iald hx hb hK hP 25 0 rfl rfl i71 dX5_load_71 ?_
        refine lv_icmp_ge (tgt := 80) hx hb dX5_load_72 (by decide) (fun c72 => ?_) (fun c72 => ?_)
        · replace hR := it_t hR c72
          refine lv_bipush (v := (-2)) hx hb dX5_load_80 bp_m2 ?_
          replace hR := Option.some.inj hR
          obtain ⟨e9, hR⟩ := Prod.mk.inj hR
          have eu1 := hR
          replace hP : va_P (dC, dI) vwCl (fl [(w_X5 ad (b1) cs u1)]) H56 := by rw [← eu1]; exact hP
          replace hD : va_D A (fl [(w_X5 ad (b1) cs u1)]) := by rw [← eu1]; exact hD
          exact W.iret hx hb hr (fun t ht hW => ⟨⟨_, (), rfl, e9, by rw [ht]; exact hP, va_K.moved hW.alike hK, hD⟩, hS.F ht⟩) hS.2.2 dX5_load_82
        · replace hR := it_f hR c72
          refine lv_iload hx hb dX5_load_75 (lv_at hl 0 rfl) ?_
          refine lv_if_ne (tgt := 83) hx hb dX5_load_77 (by decide) (fun c77 => ?_) (fun c77 => ?_)
          · replace hR := it_f hR c77
            refine lv_aload_n hx hb dX5_load_83 rfl (lv_at hl 2 rfl) ?_
            refine va_get (D := (dC, dI)) (ci := 4) (v := .ref (ad (b1 + 6))) (C := RX5) (T := TX5) (N := 6) hx hb hts hinX5 hown hK hP 0 rfl rfl 1 (by decide) hF21 (fun _ h9 => h9) rfl dX5_load_84 ?_
            refine lv_iload_n hx hb dX5_load_87 rfl (lv_at hl 4 rfl) ?_
            refine lv_iconst (v := 2) hx hb dX5_load_88 ic_2 ?_
            refine lv_iload_n hx hb dX5_load_89 rfl (lv_at hl 3 rfl) ?_
            replace hR := bd_e hR
            obtain ⟨q90, gq90, hR⟩ := hR
            replace hP : va_P (dC, dI) vwCl (fl [[((ad b1), .inr (4, [.ref (ad (b1 + 1)), .ref (ad (b1 + 6)), .ref (ad (b1 + 13)), .ref (ad (b1 + 23)), .ref (ad (b1 + 27)), .int (S1 4 1 0)]))], (w_X6 ad (b1 + 1) cs (S1 0)), (w_X1 ad (b1 + 6) cs (S1 1)), (w_X4 ad (b1 + 13) cs (S1 2)), (w_X8 ad (b1 + 23) cs (S1 3)), [((ad (b1 + 27)), .inl (cs 0, 3, .inl (S1 4 0)))]]) H56 := hP
            replace hD : va_D A (fl [[((ad b1), .inr (4, [.ref (ad (b1 + 1)), .ref (ad (b1 + 6)), .ref (ad (b1 + 13)), .ref (ad (b1 + 23)), .ref (ad (b1 + 27)), .int (S1 4 1 0)]))], (w_X6 ad (b1 + 1) cs (S1 0)), (w_X1 ad (b1 + 6) cs (S1 1)), (w_X4 ad (b1 + 13) cs (S1 2)), (w_X8 ad (b1 + 23) cs (S1 3)), [((ad (b1 + 27)), .inl (cs 0, 3, .inl (S1 4 0)))]]) := hD
            refine cl_Vv (As := [.int p2, .int (2 : Int32), .int p1]) (rest := []) (L := [[((ad b1), .inr (4, [.ref (ad (b1 + 1)), .ref (ad (b1 + 6)), .ref (ad (b1 + 13)), .ref (ad (b1 + 23)), .ref (ad (b1 + 27)), .int (S1 4 1 0)]))], (w_X6 ad (b1 + 1) cs (S1 0)), (w_X1 ad (b1 + 6) cs (S1 1)), (w_X4 ad (b1 + 13) cs (S1 2)), (w_X8 ad (b1 + 23) cs (S1 3)), [((ad (b1 + 27)), .inl (cs 0, 3, .inl (S1 4 0)))]]) (L' := [[((ad b1), .inr (4, [.ref (ad (b1 + 1)), .ref (ad (b1 + 6)), .ref (ad (b1 + 13)), .ref (ad (b1 + 23)), .ref (ad (b1 + 27)), .int ((sU S1 1 q90) 4 1 0)]))], (w_X6 ad (b1 + 1) cs ((sU S1 1 q90) 0)), (w_X1 ad (b1 + 6) cs ((sU S1 1 q90) 1)), (w_X4 ad (b1 + 13) cs ((sU S1 1 q90) 2)), (w_X8 ad (b1 + 23) cs ((sU S1 1 q90) 3)), [((ad (b1 + 27)), .inl (cs 0, 3, .inl ((sU S1 1 q90) 4 0)))]]) (Wc := [(w_X1 ad (b1 + 6) cs (S1 1))]) (Wc' := [(w_X1 ad (b1 + 6) cs q90)]) (is := [2]) (js := [0, 1, 3, 4, 5]) ⟨hx, hb, hml, hown, hts⟩ (k_X1_bring l dC dI cs ad (b1 + 6) H56.size (S1 1) p2 (2 : Int32) p1 q90 gq90) (cwV 3 hts gX5_load_X1_bring rfl rfl rfl cd_X1_bring ⟨Nat.le_of_ble_eq_true rfl, Nat.le_of_ble_eq_true rfl⟩) hK hP hD hS hA ⟨rfl, rfl, rfl, rfl, rfl, rfl⟩ (jn_nd (is := [2]) hD rfl rfl) 6 0 rfl rfl rfl rfl rfl hl.1 (Nat.le_of_ble_eq_true rfl) dX5_load_90 (fun H90 locs90 hP' hD' hS' => ?_)
            replace hS := hS'
            have hP' : va_P (dC, dI) vwCl (fl [(w_X5 ad (b1) cs (sU S1 1 q90))]) H90 := hP'
            have hD' : va_D A (fl [(w_X5 ad (b1) cs (sU S1 1 q90))]) := hD'
            replace hR := bn_e hR
            obtain ⟨S1_90, eS1_90, hR⟩ := hR
            replace hP : va_P (dC, dI) vwCl (fl [(w_X5 ad (b1) cs S1_90)]) H90 := by rw [eS1_90]; exact hP'
            replace hD : va_D A (fl [(w_X5 ad (b1) cs S1_90)]) := by rw [eS1_90]; exact hD'
            clear hP' hD' hS'
            refine lv_iload_n hx hb dX5_load_93 rfl (lv_at hl 1 rfl) ?_
            refine lv_iconst (v := 1) hx hb dX5_load_94 ic_1 ?_
            refine lv_iadd hx hb dX5_load_95 ?_
            replace hR := Option.some.inj hR
            obtain ⟨e9, hR⟩ := Prod.mk.inj hR
            have eu1 := hR
            replace hP : va_P (dC, dI) vwCl (fl [(w_X5 ad (b1) cs u1)]) H90 := by rw [← eu1]; exact hP
            replace hD : va_D A (fl [(w_X5 ad (b1) cs u1)]) := by rw [← eu1]; exact hD
            exact W.iret hx hb hr (fun t ht hW => ⟨⟨_, (), rfl, e9, by rw [ht]; exact hP, va_K.moved hW.alike hK, hD⟩, hS.F ht⟩) hS.2.2 dX5_load_96
          · replace hR := it_t hR c77
            refine lv_bipush (v := (-2)) hx hb dX5_load_80 bp_m2 ?_
            replace hR := Option.some.inj hR
            obtain ⟨e9, hR⟩ := Prod.mk.inj hR
            have eu1 := hR
            replace hP : va_P (dC, dI) vwCl (fl [(w_X5 ad (b1) cs u1)]) H56 := by rw [← eu1]; exact hP
            replace hD : va_D A (fl [(w_X5 ad (b1) cs u1)]) := by rw [← eu1]; exact hD
            exact W.iret hx hb hr (fun t ht hW => ⟨⟨_, (), rfl, e9, by rw [ht]; exact hP, va_K.moved hW.alike hK, hD⟩, hS.F ht⟩) hS.2.2 dX5_load_82
    · replace hR := it_t hR c19
      refine lv_iconst (v := (-1)) hx hb dX5_load_22 ic_m1 ?_
      replace hR := Option.some.inj hR
      obtain ⟨e9, hR⟩ := Prod.mk.inj hR
      have eu1 := hR
      replace hP : va_P (dC, dI) vwCl (fl [(w_X5 ad (b1) cs u1)]) H16 := by rw [← eu1]; exact hP
      replace hD : va_D A (fl [(w_X5 ad (b1) cs u1)]) := by rw [← eu1]; exact hD
      exact W.iret hx hb hr (fun t ht hW => ⟨⟨_, (), rfl, e9, by rw [ht]; exact hP, va_K.moved hW.alike hK, hD⟩, hS.F ht⟩) hS.2.2 dX5_load_23
set_option maxHeartbeats 8000000 in
set_option maxRecDepth 100000 in
theorem k_X5_canHandOut (l : Launch) (dC : Nat → ClassId) (dI : Nat → Nat → Nat) (cs : Nat → ClassId) (ad : Nat → Nat) (b1 : Nat) (sz : Nat) (S1 : T3) (p1 : Int32) (p2 : Int32) (r : Int32) (hR : fX5_canHandOut S1 p1 p2 = some r) : Met l yX5_canHandOut wsX5_canHandOut ({ frames := 2, cells := 0, slots := 0, locals := 44 } : Room) (va_Pc [.ref (ad b1), .int p1, .int p2] (pW dC dI (tyL cs) (fl [(w_X5 ad (b1) cs S1)]) sz)) (QI dC dI (tyL cs) (va_A (fl [(w_X5 ad (b1) cs S1)]) sz) (fl [(w_X5 ad (b1) cs S1)]) r) 0 0 (va_A (fl [(w_X5 ad (b1) cs S1)]) sz) := by
  refine mt_of (own := RX5) (cc := cX5_canHandOut) (maxL := 3) (ret := (some .boolean)) (Qc := fun A => QI dC dI (tyL cs) A (fl [(w_X5 ad (b1) cs S1)]) r) rfl (by decide) rfl (Nat.le_of_ble_eq_true rfl) (fun p e s m below meth c A ls hsz hx hb hr hts hown hlocks hml hA hK hP hD hS hl => ?_)
  subst hsz
  have hl : lv_has ls 3 [(0, .ref (ad b1)), (1, .int p1), (2, .int p2)] := hl
  have hF21 := hts (.fieldLink RX5 21 "DockedBikes$Road" "bicycles" "LDockedBikes$Bicycles;") (List.mem_of_getElem? (i := 1) rfl)
  have hinX5 : ∀ w ∈ wsX50, w ∈ wsX5_canHandOut := by decide +kernel
  refine lv_aload_n hx hb dX5_canHandOut_0 rfl (lv_at hl 0 rfl) ?_
  refine lv_iload_n hx hb dX5_canHandOut_1 rfl (lv_at hl 1 rfl) ?_
  replace hR := bd_e hR
  obtain ⟨q2, gq2, hR⟩ := hR
  refine cl_Vi (As := [.int p1]) (rest := []) (L := [(w_X5 ad (b1) cs S1)]) (L' := [(w_X5 ad (b1) cs S1)]) (Wc := [(w_X5 ad (b1) cs S1)]) (Wc' := [(w_X5 ad (b1) cs S1)]) (is := [0]) (js := []) ⟨hx, hb, hml, hown, hts⟩ (k_X5_isUnderWay l dC dI cs ad (b1) s.heap.size S1 p1 q2 gq2) (cwV 1 hts gX5_canHandOut_X5_isUnderWay rfl rfl rfl cd_X5_isUnderWay ⟨Nat.le_of_ble_eq_true rfl, Nat.le_of_ble_eq_true rfl⟩) hK hP hD hS hA ⟨rfl, rfl, rfl, rfl, rfl, rfl⟩ (jn_nd (is := [0]) hD rfl rfl) 0 4 rfl rfl rfl rfl rfl hl.1 (Nat.le_of_ble_eq_true rfl) dX5_canHandOut_2 (fun H2 locs2 hP' hD' hS' => ?_)
  replace hS := hS'
  replace hP : va_P (dC, dI) vwCl (fl [(w_X5 ad (b1) cs S1)]) H2 := hP'
  replace hD : va_D A (fl [(w_X5 ad (b1) cs S1)]) := hD'
  clear hP' hD' hS'
  refine lv_if_ne (tgt := 25) hx hb dX5_canHandOut_5 (by decide) (fun c5 => ?_) (fun c5 => ?_)
  · replace hR := it_f hR c5
    refine lv_iconst (v := 0) hx hb dX5_canHandOut_25 ic_0 ?_
    replace hR := Option.some.inj hR
    have e9 := hR
    exact W.zret (ty := .boolean) hx hb hr (by decide) (fun t ht hW => ⟨⟨_, (), rfl, e9, by rw [ht]; exact hP, va_K.moved hW.alike hK, hD⟩, hS.F ht⟩) hS.2.2 dX5_canHandOut_26
  · replace hR := it_t hR c5
    refine lv_aload_n hx hb dX5_canHandOut_8 rfl (lv_at hl 0 rfl) ?_
    refine va_get (D := (dC, dI)) (ci := 4) (v := .ref (ad (b1 + 6))) (C := RX5) (T := TX5) (N := 6) hx hb hts hinX5 hown hK hP 0 rfl rfl 1 (by decide) hF21 (fun _ h9 => h9) rfl dX5_canHandOut_9 ?_
    refine lv_iload_n hx hb dX5_canHandOut_12 rfl (lv_at hl 2 rfl) ?_
    refine lv_iconst (v := 2) hx hb dX5_canHandOut_13 ic_2 ?_
    refine lv_iload_n hx hb dX5_canHandOut_14 rfl (lv_at hl 1 rfl) ?_
    replace hR := bd_e hR
    obtain ⟨q15, gq15, hR⟩ := hR
    replace hP : va_P (dC, dI) vwCl (fl [[((ad b1), .inr (4, [.ref (ad (b1 + 1)), .ref (ad (b1 + 6)), .ref (ad (b1 + 13)), .ref (ad (b1 + 23)), .ref (ad (b1 + 27)), .int (S1 4 1 0)]))], (w_X6 ad (b1 + 1) cs (S1 0)), (w_X1 ad (b1 + 6) cs (S1 1)), (w_X4 ad (b1 + 13) cs (S1 2)), (w_X8 ad (b1 + 23) cs (S1 3)), [((ad (b1 + 27)), .inl (cs 0, 3, .inl (S1 4 0)))]]) H2 := hP
    replace hD : va_D A (fl [[((ad b1), .inr (4, [.ref (ad (b1 + 1)), .ref (ad (b1 + 6)), .ref (ad (b1 + 13)), .ref (ad (b1 + 23)), .ref (ad (b1 + 27)), .int (S1 4 1 0)]))], (w_X6 ad (b1 + 1) cs (S1 0)), (w_X1 ad (b1 + 6) cs (S1 1)), (w_X4 ad (b1 + 13) cs (S1 2)), (w_X8 ad (b1 + 23) cs (S1 3)), [((ad (b1 + 27)), .inl (cs 0, 3, .inl (S1 4 0)))]]) := hD
    refine cl_Vi (As := [.int p2, .int (2 : Int32), .int p1]) (rest := []) (L := [[((ad b1), .inr (4, [.ref (ad (b1 + 1)), .ref (ad (b1 + 6)), .ref (ad (b1 + 13)), .ref (ad (b1 + 23)), .ref (ad (b1 + 27)), .int (S1 4 1 0)]))], (w_X6 ad (b1 + 1) cs (S1 0)), (w_X1 ad (b1 + 6) cs (S1 1)), (w_X4 ad (b1 + 13) cs (S1 2)), (w_X8 ad (b1 + 23) cs (S1 3)), [((ad (b1 + 27)), .inl (cs 0, 3, .inl (S1 4 0)))]]) (L' := [[((ad b1), .inr (4, [.ref (ad (b1 + 1)), .ref (ad (b1 + 6)), .ref (ad (b1 + 13)), .ref (ad (b1 + 23)), .ref (ad (b1 + 27)), .int (S1 4 1 0)]))], (w_X6 ad (b1 + 1) cs (S1 0)), (w_X1 ad (b1 + 6) cs (S1 1)), (w_X4 ad (b1 + 13) cs (S1 2)), (w_X8 ad (b1 + 23) cs (S1 3)), [((ad (b1 + 27)), .inl (cs 0, 3, .inl (S1 4 0)))]]) (Wc := [(w_X1 ad (b1 + 6) cs (S1 1))]) (Wc' := [(w_X1 ad (b1 + 6) cs (S1 1))]) (is := [2]) (js := [0, 1, 3, 4, 5]) ⟨hx, hb, hml, hown, hts⟩ (k_X1_isAt l dC dI cs ad (b1 + 6) H2.size (S1 1) p2 (2 : Int32) p1 q15 gq15) (cwV 3 hts gX5_canHandOut_X1_isAt rfl rfl rfl cd_X1_isAt ⟨Nat.le_of_ble_eq_true rfl, Nat.le_of_ble_eq_true rfl⟩) hK hP hD hS hA ⟨rfl, rfl, rfl, rfl, rfl, rfl⟩ (jn_nd (is := [2]) hD rfl rfl) 6 0 rfl rfl rfl rfl rfl hl.1 (Nat.le_of_ble_eq_true rfl) dX5_canHandOut_15 (fun H15 locs15 hP' hD' hS' => ?_)
    replace hS := hS'
    replace hP : va_P (dC, dI) vwCl (fl [(w_X5 ad (b1) cs S1)]) H15 := hP'
    replace hD : va_D A (fl [(w_X5 ad (b1) cs S1)]) := hD'
    clear hP' hD' hS'
    refine lv_if_eq (tgt := 25) hx hb dX5_canHandOut_18 (by decide) (fun c18 => ?_) (fun c18 => ?_)
    · replace hR := it_t hR c18
      refine lv_iconst (v := 0) hx hb dX5_canHandOut_25 ic_0 ?_
      replace hR := Option.some.inj hR
      have e9 := hR
      exact W.zret (ty := .boolean) hx hb hr (by decide) (fun t ht hW => ⟨⟨_, (), rfl, e9, by rw [ht]; exact hP, va_K.moved hW.alike hK, hD⟩, hS.F ht⟩) hS.2.2 dX5_canHandOut_26
    · replace hR := it_f hR c18
      refine lv_iconst (v := 1) hx hb dX5_canHandOut_21 ic_1 ?_
      refine lv_goto (tgt := 26) hx hb dX5_canHandOut_22 (by decide) ?_
      replace hR := Option.some.inj hR
      have e9 := hR
      exact W.zret (ty := .boolean) hx hb hr (by decide) (fun t ht hW => ⟨⟨_, (), rfl, e9, by rw [ht]; exact hP, va_K.moved hW.alike hK, hD⟩, hS.F ht⟩) hS.2.2 dX5_canHandOut_26
set_option maxHeartbeats 8000000 in
set_option maxRecDepth 100000 in
theorem k_X5_unload (l : Launch) (dC : Nat → ClassId) (dI : Nat → Nat → Nat) (cs : Nat → ClassId) (ad : Nat → Nat) (b1 : Nat) (sz : Nat) (S1 : T3) (p1 : Int32) (p2 : Int32) (r : Int32) (u1 : T3) (hR : fX5_unload S1 p1 p2 = some (r, u1)) : Met l yX5_unload wsX5_unload ({ frames := 3, cells := 0, slots := 0, locals := 66 } : Room) (va_Pc [.ref (ad b1), .int p1, .int p2] (pW dC dI (tyL cs) (fl [(w_X5 ad (b1) cs S1)]) sz)) (QI dC dI (tyL cs) (va_A (fl [(w_X5 ad (b1) cs S1)]) sz) (fl [(w_X5 ad (b1) cs u1)]) r) 0 0 (va_A (fl [(w_X5 ad (b1) cs S1)]) sz) := by
  refine mt_of (own := RX5) (cc := cX5_unload) (maxL := 4) (ret := (some .int)) (Qc := fun A => QI dC dI (tyL cs) A (fl [(w_X5 ad (b1) cs u1)]) r) rfl (by decide) rfl (Nat.le_of_ble_eq_true rfl) (fun p e s m below meth c A ls hsz hx hb hr hts hown hlocks hml hA hK hP hD hS hl => ?_)
  subst hsz
  have hl : lv_has ls 4 [(0, .ref (ad b1)), (1, .int p1), (2, .int p2)] := hl
  have hF21 := hts (.fieldLink RX5 21 "DockedBikes$Road" "bicycles" "LDockedBikes$Bicycles;") (List.mem_of_getElem? (i := 2) rfl)
  have hF35 := hts (.fieldLink RX5 35 "DockedBikes$Road" "vans" "LDockedBikes$Vans;") (List.mem_of_getElem? (i := 1) rfl)
  have hF157 := hts (.fieldLink RX5 157 "DockedBikes$Vans" "station" "[I") (List.mem_of_getElem? (i := 3) rfl)
  have hinX5 : ∀ w ∈ wsX50, w ∈ wsX5_unload := by decide +kernel
  have hinX8 : ∀ w ∈ wsX80, w ∈ wsX5_unload := by decide +kernel
  refine lv_aload_n hx hb dX5_unload_0 rfl (lv_at hl 0 rfl) ?_
  refine va_get (D := (dC, dI)) (ci := 4) (v := .ref (ad (b1 + 23))) (C := RX5) (T := TX5) (N := 6) hx hb hts hinX5 hown hK hP 0 rfl rfl 3 (by decide) hF35 (fun _ h9 => h9) rfl dX5_unload_1 ?_
  refine lv_iload_n hx hb dX5_unload_4 rfl (lv_at hl 1 rfl) ?_
  replace hR := bd_e hR
  obtain ⟨q5, gq5, hR⟩ := hR
  replace hP : va_P (dC, dI) vwCl (fl [[((ad b1), .inr (4, [.ref (ad (b1 + 1)), .ref (ad (b1 + 6)), .ref (ad (b1 + 13)), .ref (ad (b1 + 23)), .ref (ad (b1 + 27)), .int (S1 4 1 0)]))], (w_X6 ad (b1 + 1) cs (S1 0)), (w_X1 ad (b1 + 6) cs (S1 1)), (w_X4 ad (b1 + 13) cs (S1 2)), (w_X8 ad (b1 + 23) cs (S1 3)), [((ad (b1 + 27)), .inl (cs 0, 3, .inl (S1 4 0)))]]) s.heap := hP
  replace hD : va_D A (fl [[((ad b1), .inr (4, [.ref (ad (b1 + 1)), .ref (ad (b1 + 6)), .ref (ad (b1 + 13)), .ref (ad (b1 + 23)), .ref (ad (b1 + 27)), .int (S1 4 1 0)]))], (w_X6 ad (b1 + 1) cs (S1 0)), (w_X1 ad (b1 + 6) cs (S1 1)), (w_X4 ad (b1 + 13) cs (S1 2)), (w_X8 ad (b1 + 23) cs (S1 3)), [((ad (b1 + 27)), .inl (cs 0, 3, .inl (S1 4 0)))]]) := hD
  refine cl_Vi (As := [.int p1]) (rest := []) (L := [[((ad b1), .inr (4, [.ref (ad (b1 + 1)), .ref (ad (b1 + 6)), .ref (ad (b1 + 13)), .ref (ad (b1 + 23)), .ref (ad (b1 + 27)), .int (S1 4 1 0)]))], (w_X6 ad (b1 + 1) cs (S1 0)), (w_X1 ad (b1 + 6) cs (S1 1)), (w_X4 ad (b1 + 13) cs (S1 2)), (w_X8 ad (b1 + 23) cs (S1 3)), [((ad (b1 + 27)), .inl (cs 0, 3, .inl (S1 4 0)))]]) (L' := [[((ad b1), .inr (4, [.ref (ad (b1 + 1)), .ref (ad (b1 + 6)), .ref (ad (b1 + 13)), .ref (ad (b1 + 23)), .ref (ad (b1 + 27)), .int (S1 4 1 0)]))], (w_X6 ad (b1 + 1) cs (S1 0)), (w_X1 ad (b1 + 6) cs (S1 1)), (w_X4 ad (b1 + 13) cs (S1 2)), (w_X8 ad (b1 + 23) cs (S1 3)), [((ad (b1 + 27)), .inl (cs 0, 3, .inl (S1 4 0)))]]) (Wc := [(w_X8 ad (b1 + 23) cs (S1 3))]) (Wc' := [(w_X8 ad (b1 + 23) cs (S1 3))]) (is := [4]) (js := [0, 1, 2, 3, 5]) ⟨hx, hb, hml, hown, hts⟩ (k_X8_has l dC dI cs ad (b1 + 23) s.heap.size (S1 3) p1 q5 gq5) (cwV 1 hts gX5_unload_X8_has rfl rfl rfl cd_X8_has ⟨Nat.le_of_ble_eq_true rfl, Nat.le_of_ble_eq_true rfl⟩) hK hP hD hS hA ⟨rfl, rfl, rfl, rfl, rfl, rfl⟩ (jn_nd (is := [4]) hD rfl rfl) 23 7 rfl rfl rfl rfl rfl hl.1 (Nat.le_of_ble_eq_true rfl) dX5_unload_5 (fun H5 locs5 hP' hD' hS' => ?_)
  replace hS := hS'
  replace hP : va_P (dC, dI) vwCl (fl [(w_X5 ad (b1) cs S1)]) H5 := hP'
  replace hD : va_D A (fl [(w_X5 ad (b1) cs S1)]) := hD'
  clear hP' hD' hS'
  refine lv_if_eq (tgt := 22) hx hb dX5_unload_8 (by decide) (fun c8 => ?_) (fun c8 => ?_)
  · replace hR := it_t hR c8
    refine lv_iconst (v := (-1)) hx hb dX5_unload_22 ic_m1 ?_
    replace hR := Option.some.inj hR
    obtain ⟨e9, hR⟩ := Prod.mk.inj hR
    have eu1 := hR
    replace hP : va_P (dC, dI) vwCl (fl [(w_X5 ad (b1) cs u1)]) H5 := by rw [← eu1]; exact hP
    replace hD : va_D A (fl [(w_X5 ad (b1) cs u1)]) := by rw [← eu1]; exact hD
    exact W.iret hx hb hr (fun t ht hW => ⟨⟨_, (), rfl, e9, by rw [ht]; exact hP, va_K.moved hW.alike hK, hD⟩, hS.F ht⟩) hS.2.2 dX5_unload_23
  · replace hR := it_f hR c8
    refine lv_aload_n hx hb dX5_unload_11 rfl (lv_at hl 0 rfl) ?_
    refine va_get (D := (dC, dI)) (ci := 4) (v := .ref (ad (b1 + 6))) (C := RX5) (T := TX5) (N := 6) hx hb hts hinX5 hown hK hP 0 rfl rfl 1 (by decide) hF21 (fun _ h9 => h9) rfl dX5_unload_12 ?_
    refine lv_iload_n hx hb dX5_unload_15 rfl (lv_at hl 2 rfl) ?_
    replace hR := bd_e hR
    obtain ⟨q16, gq16, hR⟩ := hR
    replace hP : va_P (dC, dI) vwCl (fl [[((ad b1), .inr (4, [.ref (ad (b1 + 1)), .ref (ad (b1 + 6)), .ref (ad (b1 + 13)), .ref (ad (b1 + 23)), .ref (ad (b1 + 27)), .int (S1 4 1 0)]))], (w_X6 ad (b1 + 1) cs (S1 0)), (w_X1 ad (b1 + 6) cs (S1 1)), (w_X4 ad (b1 + 13) cs (S1 2)), (w_X8 ad (b1 + 23) cs (S1 3)), [((ad (b1 + 27)), .inl (cs 0, 3, .inl (S1 4 0)))]]) H5 := hP
    replace hD : va_D A (fl [[((ad b1), .inr (4, [.ref (ad (b1 + 1)), .ref (ad (b1 + 6)), .ref (ad (b1 + 13)), .ref (ad (b1 + 23)), .ref (ad (b1 + 27)), .int (S1 4 1 0)]))], (w_X6 ad (b1 + 1) cs (S1 0)), (w_X1 ad (b1 + 6) cs (S1 1)), (w_X4 ad (b1 + 13) cs (S1 2)), (w_X8 ad (b1 + 23) cs (S1 3)), [((ad (b1 + 27)), .inl (cs 0, 3, .inl (S1 4 0)))]]) := hD
    refine cl_Vi (As := [.int p2]) (rest := []) (L := [[((ad b1), .inr (4, [.ref (ad (b1 + 1)), .ref (ad (b1 + 6)), .ref (ad (b1 + 13)), .ref (ad (b1 + 23)), .ref (ad (b1 + 27)), .int (S1 4 1 0)]))], (w_X6 ad (b1 + 1) cs (S1 0)), (w_X1 ad (b1 + 6) cs (S1 1)), (w_X4 ad (b1 + 13) cs (S1 2)), (w_X8 ad (b1 + 23) cs (S1 3)), [((ad (b1 + 27)), .inl (cs 0, 3, .inl (S1 4 0)))]]) (L' := [[((ad b1), .inr (4, [.ref (ad (b1 + 1)), .ref (ad (b1 + 6)), .ref (ad (b1 + 13)), .ref (ad (b1 + 23)), .ref (ad (b1 + 27)), .int (S1 4 1 0)]))], (w_X6 ad (b1 + 1) cs (S1 0)), (w_X1 ad (b1 + 6) cs (S1 1)), (w_X4 ad (b1 + 13) cs (S1 2)), (w_X8 ad (b1 + 23) cs (S1 3)), [((ad (b1 + 27)), .inl (cs 0, 3, .inl (S1 4 0)))]]) (Wc := [(w_X1 ad (b1 + 6) cs (S1 1))]) (Wc' := [(w_X1 ad (b1 + 6) cs (S1 1))]) (is := [2]) (js := [0, 1, 3, 4, 5]) ⟨hx, hb, hml, hown, hts⟩ (k_X1_has l dC dI cs ad (b1 + 6) H5.size (S1 1) p2 q16 gq16) (cwV 1 hts gX5_unload_X1_has rfl rfl rfl cd_X1_has ⟨Nat.le_of_ble_eq_true rfl, Nat.le_of_ble_eq_true rfl⟩) hK hP hD hS hA ⟨rfl, rfl, rfl, rfl, rfl, rfl⟩ (jn_nd (is := [2]) hD rfl rfl) 6 0 rfl rfl rfl rfl rfl hl.1 (Nat.le_of_ble_eq_true rfl) dX5_unload_16 (fun H16 locs16 hP' hD' hS' => ?_)
    replace hS := hS'
    replace hP : va_P (dC, dI) vwCl (fl [(w_X5 ad (b1) cs S1)]) H16 := hP'
    replace hD : va_D A (fl [(w_X5 ad (b1) cs S1)]) := hD'
    clear hP' hD' hS'
    refine lv_if_ne (tgt := 24) hx hb dX5_unload_19 (by decide) (fun c19 => ?_) (fun c19 => ?_)
    · replace hR := it_f hR c19
      refine lv_aload_n hx hb dX5_unload_24 rfl (lv_at hl 0 rfl) ?_
      refine va_get (D := (dC, dI)) (ci := 4) (v := .ref (ad (b1 + 23))) (C := RX5) (T := TX5) (N := 6) hx hb hts hinX5 hown hK hP 0 rfl rfl 3 (by decide) hF35 (fun _ h9 => h9) rfl dX5_unload_25 ?_
      refine va_get (D := (dC, dI)) (ci := 7) (v := .ref (ad (b1 + 23 + 1))) (C := RX8) (T := TX8) (N := 4) hx hb hts hinX8 hown hK hP 23 rfl rfl 1 (by decide) hF157 (fun _ h9 => h9) rfl dX5_unload_28 ?_
      refine lv_iload_n hx hb dX5_unload_31 rfl (lv_at hl 1 rfl) ?_
      replace hR := gi_e hR
      obtain ⟨i32, hR⟩ := hR
      refine va_iald hx hb hK hP 24 0 rfl rfl i32 dX5_unload_32 ?_
      refine lv_istore_n (lv' := [(3, .int (S1 3 0 p1.toNatClampNeg)), (0, .ref (ad b1)), (1, .int p1), (2, .int p2)]) hx hb dX5_unload_33 rfl hl (Nat.le_of_ble_eq_true rfl) rfl (fun ls hl => ?_)
      refine lv_aload_n hx hb dX5_unload_34 rfl (lv_at hl 1 rfl) ?_
      refine lv_iload_n hx hb dX5_unload_35 rfl (lv_at hl 2 rfl) ?_
      refine lv_iload_n hx hb dX5_unload_36 rfl (lv_at hl 3 rfl) ?_
      replace hR := bd_e hR
      obtain ⟨q37, gq37, hR⟩ := hR
      refine cl_Vi (As := [.int p1, .int p2]) (rest := []) (L := [(w_X5 ad (b1) cs S1)]) (L' := [(w_X5 ad (b1) cs S1)]) (Wc := [(w_X5 ad (b1) cs S1)]) (Wc' := [(w_X5 ad (b1) cs S1)]) (is := [0]) (js := []) ⟨hx, hb, hml, hown, hts⟩ (k_X5_canHandOut l dC dI cs ad (b1) H16.size S1 p1 p2 q37 gq37) (cwV 2 hts gX5_unload_X5_canHandOut rfl rfl rfl cd_X5_canHandOut ⟨Nat.le_of_ble_eq_true rfl, Nat.le_of_ble_eq_true rfl⟩) hK hP hD hS hA ⟨rfl, rfl, rfl, rfl, rfl, rfl⟩ (jn_nd (is := [0]) hD rfl rfl) 0 4 rfl rfl rfl rfl rfl hl.1 (Nat.le_of_ble_eq_true rfl) dX5_unload_37 (fun H37 locs37 hP' hD' hS' => ?_)
      replace hS := hS'
      replace hP : va_P (dC, dI) vwCl (fl [(w_X5 ad (b1) cs S1)]) H37 := hP'
      replace hD : va_D A (fl [(w_X5 ad (b1) cs S1)]) := hD'
      clear hP' hD' hS'
      refine lv_if_eq (tgt := 51) hx hb dX5_unload_40 (by decide) (fun c40 => ?_) (fun c40 => ?_)
      · replace hR := it_t hR c40
        refine lv_bipush (v := (-2)) hx hb dX5_unload_51 bp_m2 ?_
        replace hR := Option.some.inj hR
        obtain ⟨e9, hR⟩ := Prod.mk.inj hR
        have eu1 := hR
        replace hP : va_P (dC, dI) vwCl (fl [(w_X5 ad (b1) cs u1)]) H37 := by rw [← eu1]; exact hP
        replace hD : va_D A (fl [(w_X5 ad (b1) cs u1)]) := by rw [← eu1]; exact hD
        exact W.iret hx hb hr (fun t ht hW => ⟨⟨_, (), rfl, e9, by rw [ht]; exact hP, va_K.moved hW.alike hK, hD⟩, hS.F ht⟩) hS.2.2 dX5_unload_53
      · replace hR := it_f hR c40
        refine lv_aload_n hx hb dX5_unload_43 rfl (lv_at hl 1 rfl) ?_
        refine lv_iload_n hx hb dX5_unload_44 rfl (lv_at hl 0 rfl) ?_
        replace hR := bd_e hR
        obtain ⟨q45, gq45, hR⟩ := hR
        refine cl_Vi (As := [.int (S1 3 0 p1.toNatClampNeg)]) (rest := []) (L := [(w_X5 ad (b1) cs S1)]) (L' := [(w_X5 ad (b1) cs S1)]) (Wc := [(w_X5 ad (b1) cs S1)]) (Wc' := [(w_X5 ad (b1) cs S1)]) (is := [0]) (js := []) ⟨hx, hb, hml, hown, hts⟩ (k_X5_hasFreeDock l dC dI cs ad (b1) H37.size S1 (S1 3 0 p1.toNatClampNeg) q45 gq45) (cwV 1 hts gX5_unload_X5_hasFreeDock rfl rfl rfl cd_X5_hasFreeDock ⟨Nat.le_of_ble_eq_true rfl, Nat.le_of_ble_eq_true rfl⟩) hK hP hD hS hA ⟨rfl, rfl, rfl, rfl, rfl, rfl⟩ (jn_nd (is := [0]) hD rfl rfl) 0 4 rfl rfl rfl rfl rfl hl.1 (Nat.le_of_ble_eq_true rfl) dX5_unload_45 (fun H45 locs45 hP' hD' hS' => ?_)
        replace hS := hS'
        replace hP : va_P (dC, dI) vwCl (fl [(w_X5 ad (b1) cs S1)]) H45 := hP'
        replace hD : va_D A (fl [(w_X5 ad (b1) cs S1)]) := hD'
        clear hP' hD' hS'
        refine lv_if_ne (tgt := 54) hx hb dX5_unload_48 (by decide) (fun c48 => ?_) (fun c48 => ?_)
        · replace hR := it_f hR c48
          refine lv_aload_n hx hb dX5_unload_54 rfl (lv_at hl 1 rfl) ?_
          refine va_get (D := (dC, dI)) (ci := 4) (v := .ref (ad (b1 + 6))) (C := RX5) (T := TX5) (N := 6) hx hb hts hinX5 hown hK hP 0 rfl rfl 1 (by decide) hF21 (fun _ h9 => h9) rfl dX5_unload_55 ?_
          refine lv_iload_n hx hb dX5_unload_58 rfl (lv_at hl 3 rfl) ?_
          refine lv_iconst (v := 0) hx hb dX5_unload_59 ic_0 ?_
          refine lv_iload_n hx hb dX5_unload_60 rfl (lv_at hl 0 rfl) ?_
          replace hR := bd_e hR
          obtain ⟨q61, gq61, hR⟩ := hR
          replace hP : va_P (dC, dI) vwCl (fl [[((ad b1), .inr (4, [.ref (ad (b1 + 1)), .ref (ad (b1 + 6)), .ref (ad (b1 + 13)), .ref (ad (b1 + 23)), .ref (ad (b1 + 27)), .int (S1 4 1 0)]))], (w_X6 ad (b1 + 1) cs (S1 0)), (w_X1 ad (b1 + 6) cs (S1 1)), (w_X4 ad (b1 + 13) cs (S1 2)), (w_X8 ad (b1 + 23) cs (S1 3)), [((ad (b1 + 27)), .inl (cs 0, 3, .inl (S1 4 0)))]]) H45 := hP
          replace hD : va_D A (fl [[((ad b1), .inr (4, [.ref (ad (b1 + 1)), .ref (ad (b1 + 6)), .ref (ad (b1 + 13)), .ref (ad (b1 + 23)), .ref (ad (b1 + 27)), .int (S1 4 1 0)]))], (w_X6 ad (b1 + 1) cs (S1 0)), (w_X1 ad (b1 + 6) cs (S1 1)), (w_X4 ad (b1 + 13) cs (S1 2)), (w_X8 ad (b1 + 23) cs (S1 3)), [((ad (b1 + 27)), .inl (cs 0, 3, .inl (S1 4 0)))]]) := hD
          refine cl_Vv (As := [.int p2, .int (0 : Int32), .int (S1 3 0 p1.toNatClampNeg)]) (rest := []) (L := [[((ad b1), .inr (4, [.ref (ad (b1 + 1)), .ref (ad (b1 + 6)), .ref (ad (b1 + 13)), .ref (ad (b1 + 23)), .ref (ad (b1 + 27)), .int (S1 4 1 0)]))], (w_X6 ad (b1 + 1) cs (S1 0)), (w_X1 ad (b1 + 6) cs (S1 1)), (w_X4 ad (b1 + 13) cs (S1 2)), (w_X8 ad (b1 + 23) cs (S1 3)), [((ad (b1 + 27)), .inl (cs 0, 3, .inl (S1 4 0)))]]) (L' := [[((ad b1), .inr (4, [.ref (ad (b1 + 1)), .ref (ad (b1 + 6)), .ref (ad (b1 + 13)), .ref (ad (b1 + 23)), .ref (ad (b1 + 27)), .int ((sU S1 1 q61) 4 1 0)]))], (w_X6 ad (b1 + 1) cs ((sU S1 1 q61) 0)), (w_X1 ad (b1 + 6) cs ((sU S1 1 q61) 1)), (w_X4 ad (b1 + 13) cs ((sU S1 1 q61) 2)), (w_X8 ad (b1 + 23) cs ((sU S1 1 q61) 3)), [((ad (b1 + 27)), .inl (cs 0, 3, .inl ((sU S1 1 q61) 4 0)))]]) (Wc := [(w_X1 ad (b1 + 6) cs (S1 1))]) (Wc' := [(w_X1 ad (b1 + 6) cs q61)]) (is := [2]) (js := [0, 1, 3, 4, 5]) ⟨hx, hb, hml, hown, hts⟩ (k_X1_bring l dC dI cs ad (b1 + 6) H45.size (S1 1) p2 (0 : Int32) (S1 3 0 p1.toNatClampNeg) q61 gq61) (cwV 3 hts gX5_unload_X1_bring rfl rfl rfl cd_X1_bring ⟨Nat.le_of_ble_eq_true rfl, Nat.le_of_ble_eq_true rfl⟩) hK hP hD hS hA ⟨rfl, rfl, rfl, rfl, rfl, rfl⟩ (jn_nd (is := [2]) hD rfl rfl) 6 0 rfl rfl rfl rfl rfl hl.1 (Nat.le_of_ble_eq_true rfl) dX5_unload_61 (fun H61 locs61 hP' hD' hS' => ?_)
          replace hS := hS'
          have hP' : va_P (dC, dI) vwCl (fl [(w_X5 ad (b1) cs (sU S1 1 q61))]) H61 := hP'
          have hD' : va_D A (fl [(w_X5 ad (b1) cs (sU S1 1 q61))]) := hD'
          replace hR := bn_e hR
          obtain ⟨S1_61, eS1_61, hR⟩ := hR
          replace hP : va_P (dC, dI) vwCl (fl [(w_X5 ad (b1) cs S1_61)]) H61 := by rw [eS1_61]; exact hP'
          replace hD : va_D A (fl [(w_X5 ad (b1) cs S1_61)]) := by rw [eS1_61]; exact hD'
          clear hP' hD' hS'
          refine lv_aload_n hx hb dX5_unload_64 rfl (lv_at hl 1 rfl) ?_
          refine va_get (D := (dC, dI)) (ci := 4) (v := .ref (ad (b1 + 6))) (C := RX5) (T := TX5) (N := 6) hx hb hts hinX5 hown hK hP 0 rfl rfl 1 (by decide) hF21 (fun _ h9 => h9) rfl dX5_unload_65 ?_
          refine lv_iconst (v := 2) hx hb dX5_unload_68 ic_2 ?_
          refine lv_iload_n hx hb dX5_unload_69 rfl (lv_at hl 2 rfl) ?_
          replace hR := bd_e hR
          obtain ⟨q70, gq70, hR⟩ := hR
          replace hP : va_P (dC, dI) vwCl (fl [[((ad b1), .inr (4, [.ref (ad (b1 + 1)), .ref (ad (b1 + 6)), .ref (ad (b1 + 13)), .ref (ad (b1 + 23)), .ref (ad (b1 + 27)), .int (S1_61 4 1 0)]))], (w_X6 ad (b1 + 1) cs (S1_61 0)), (w_X1 ad (b1 + 6) cs (S1_61 1)), (w_X4 ad (b1 + 13) cs (S1_61 2)), (w_X8 ad (b1 + 23) cs (S1_61 3)), [((ad (b1 + 27)), .inl (cs 0, 3, .inl (S1_61 4 0)))]]) H61 := hP
          replace hD : va_D A (fl [[((ad b1), .inr (4, [.ref (ad (b1 + 1)), .ref (ad (b1 + 6)), .ref (ad (b1 + 13)), .ref (ad (b1 + 23)), .ref (ad (b1 + 27)), .int (S1_61 4 1 0)]))], (w_X6 ad (b1 + 1) cs (S1_61 0)), (w_X1 ad (b1 + 6) cs (S1_61 1)), (w_X4 ad (b1 + 13) cs (S1_61 2)), (w_X8 ad (b1 + 23) cs (S1_61 3)), [((ad (b1 + 27)), .inl (cs 0, 3, .inl (S1_61 4 0)))]]) := hD
          refine cl_Vi (As := [.int (2 : Int32), .int p1]) (rest := []) (L := [[((ad b1), .inr (4, [.ref (ad (b1 + 1)), .ref (ad (b1 + 6)), .ref (ad (b1 + 13)), .ref (ad (b1 + 23)), .ref (ad (b1 + 27)), .int (S1_61 4 1 0)]))], (w_X6 ad (b1 + 1) cs (S1_61 0)), (w_X1 ad (b1 + 6) cs (S1_61 1)), (w_X4 ad (b1 + 13) cs (S1_61 2)), (w_X8 ad (b1 + 23) cs (S1_61 3)), [((ad (b1 + 27)), .inl (cs 0, 3, .inl (S1_61 4 0)))]]) (L' := [[((ad b1), .inr (4, [.ref (ad (b1 + 1)), .ref (ad (b1 + 6)), .ref (ad (b1 + 13)), .ref (ad (b1 + 23)), .ref (ad (b1 + 27)), .int (S1_61 4 1 0)]))], (w_X6 ad (b1 + 1) cs (S1_61 0)), (w_X1 ad (b1 + 6) cs (S1_61 1)), (w_X4 ad (b1 + 13) cs (S1_61 2)), (w_X8 ad (b1 + 23) cs (S1_61 3)), [((ad (b1 + 27)), .inl (cs 0, 3, .inl (S1_61 4 0)))]]) (Wc := [(w_X1 ad (b1 + 6) cs (S1_61 1))]) (Wc' := [(w_X1 ad (b1 + 6) cs (S1_61 1))]) (is := [2]) (js := [0, 1, 3, 4, 5]) ⟨hx, hb, hml, hown, hts⟩ (k_X1_countAt l dC dI cs ad (b1 + 6) H61.size (S1_61 1) (2 : Int32) p1 q70 gq70) (cwV 2 hts gX5_unload_X1_countAt rfl rfl rfl cd_X1_countAt ⟨Nat.le_of_ble_eq_true rfl, Nat.le_of_ble_eq_true rfl⟩) hK hP hD hS hA ⟨rfl, rfl, rfl, rfl, rfl, rfl⟩ (jn_nd (is := [2]) hD rfl rfl) 6 0 rfl rfl rfl rfl rfl hl.1 (Nat.le_of_ble_eq_true rfl) dX5_unload_70 (fun H70 locs70 hP' hD' hS' => ?_)
          replace hS := hS'
          replace hP : va_P (dC, dI) vwCl (fl [(w_X5 ad (b1) cs S1_61)]) H70 := hP'
          replace hD : va_D A (fl [(w_X5 ad (b1) cs S1_61)]) := hD'
          clear hP' hD' hS'
          replace hR := Option.some.inj hR
          obtain ⟨e9, hR⟩ := Prod.mk.inj hR
          have eu1 := hR
          replace hP : va_P (dC, dI) vwCl (fl [(w_X5 ad (b1) cs u1)]) H70 := by rw [← eu1]; exact hP
          replace hD : va_D A (fl [(w_X5 ad (b1) cs u1)]) := by rw [← eu1]; exact hD
          exact W.iret hx hb hr (fun t ht hW => ⟨⟨_, (), rfl, e9, by rw [ht]; exact hP, va_K.moved hW.alike hK, hD⟩, hS.F ht⟩) hS.2.2 dX5_unload_73
        · replace hR := it_t hR c48
          refine lv_bipush (v := (-2)) hx hb dX5_unload_51 bp_m2 ?_
          replace hR := Option.some.inj hR
          obtain ⟨e9, hR⟩ := Prod.mk.inj hR
          have eu1 := hR
          replace hP : va_P (dC, dI) vwCl (fl [(w_X5 ad (b1) cs u1)]) H45 := by rw [← eu1]; exact hP
          replace hD : va_D A (fl [(w_X5 ad (b1) cs u1)]) := by rw [← eu1]; exact hD
          exact W.iret hx hb hr (fun t ht hW => ⟨⟨_, (), rfl, e9, by rw [ht]; exact hP, va_K.moved hW.alike hK, hD⟩, hS.F ht⟩) hS.2.2 dX5_unload_53
    · replace hR := it_t hR c19
      refine lv_iconst (v := (-1)) hx hb dX5_unload_22 ic_m1 ?_
      replace hR := Option.some.inj hR
      obtain ⟨e9, hR⟩ := Prod.mk.inj hR
      have eu1 := hR
      replace hP : va_P (dC, dI) vwCl (fl [(w_X5 ad (b1) cs u1)]) H16 := by rw [← eu1]; exact hP
      replace hD : va_D A (fl [(w_X5 ad (b1) cs u1)]) := by rw [← eu1]; exact hD
      exact W.iret hx hb hr (fun t ht hW => ⟨⟨_, (), rfl, e9, by rw [ht]; exact hP, va_K.moved hW.alike hK, hD⟩, hS.F ht⟩) hS.2.2 dX5_unload_23
set_option maxHeartbeats 8000000 in
set_option maxRecDepth 100000 in
theorem k_X6_way (l : Launch) (dC : Nat → ClassId) (dI : Nat → Nat → Nat) (cs : Nat → ClassId) (ad : Nat → Nat) (b1 : Nat) (sz : Nat) (S1 : T2) (p1 : Int32) (p2 : Int32) (r : Int32) (hR : fX6_way S1 p1 p2 = some r) : Met l yX6_way wsX6_way ({ frames := 1, cells := 0, slots := 0, locals := 21 } : Room) (va_Pc [.ref (ad b1), .int p1, .int p2] (pW dC dI (tyL cs) (fl [(w_X6 ad (b1) cs S1)]) sz)) (QI dC dI (tyL cs) (va_A (fl [(w_X6 ad (b1) cs S1)]) sz) (fl [(w_X6 ad (b1) cs S1)]) r) 0 0 (va_A (fl [(w_X6 ad (b1) cs S1)]) sz) := by
  refine mt_of (own := RX6) (cc := cX6_way) (maxL := 3) (ret := (some .int)) (Qc := fun A => QI dC dI (tyL cs) A (fl [(w_X6 ad (b1) cs S1)]) r) rfl (by decide) rfl (Nat.le_of_ble_eq_true rfl) (fun p e s m below meth c A ls hsz hx hb hr hts hown hlocks hml hA hK hP hD hS hl => ?_)
  subst hsz
  have hl : lv_has ls 3 [(0, .ref (ad b1)), (1, .int p1), (2, .int p2)] := hl
  have hF11 := hts (.fieldLink RX6 11 "DockedBikes$Stations" "place" "[I") (List.mem_of_getElem? (i := 1) rfl)
  have hinX6 : ∀ w ∈ wsX60, w ∈ wsX6_way := by decide +kernel
  refine lv_aload_n hx hb dX6_way_0 rfl (lv_at hl 0 rfl) ?_
  refine lv_iload_n hx hb dX6_way_1 rfl (lv_at hl 1 rfl) ?_
  replace hR := bd_e hR
  obtain ⟨q2, gq2, hR⟩ := hR
  refine cl_Vi (As := [.int p1]) (rest := []) (L := [(w_X6 ad (b1) cs S1)]) (L' := [(w_X6 ad (b1) cs S1)]) (Wc := [(w_X6 ad (b1) cs S1)]) (Wc' := [(w_X6 ad (b1) cs S1)]) (is := [0]) (js := []) ⟨hx, hb, hml, hown, hts⟩ (k_X6_has l dC dI cs ad (b1) s.heap.size S1 p1 q2 gq2) (cwV 1 hts gX6_way_X6_has rfl rfl rfl cd_X6_has ⟨Nat.le_of_ble_eq_true rfl, Nat.le_of_ble_eq_true rfl⟩) hK hP hD hS hA ⟨rfl, rfl, rfl, rfl, rfl, rfl⟩ (jn_nd (is := [0]) hD rfl rfl) 0 5 rfl rfl rfl rfl rfl hl.1 (Nat.le_of_ble_eq_true rfl) dX6_way_2 (fun H2 locs2 hP' hD' hS' => ?_)
  replace hS := hS'
  replace hP : va_P (dC, dI) vwCl (fl [(w_X6 ad (b1) cs S1)]) H2 := hP'
  replace hD : va_D A (fl [(w_X6 ad (b1) cs S1)]) := hD'
  clear hP' hD' hS'
  refine lv_if_eq (tgt := 35) hx hb dX6_way_5 (by decide) (fun c5 => ?_) (fun c5 => ?_)
  · replace hR := it_t hR c5
    refine lv_iconst (v := 0) hx hb dX6_way_35 ic_0 ?_
    replace hR := Option.some.inj hR
    have e9 := hR
    exact W.iret hx hb hr (fun t ht hW => ⟨⟨_, (), rfl, e9, by rw [ht]; exact hP, va_K.moved hW.alike hK, hD⟩, hS.F ht⟩) hS.2.2 dX6_way_36
  · replace hR := it_f hR c5
    refine lv_aload_n hx hb dX6_way_8 rfl (lv_at hl 0 rfl) ?_
    refine lv_iload_n hx hb dX6_way_9 rfl (lv_at hl 2 rfl) ?_
    replace hR := bd_e hR
    obtain ⟨q10, gq10, hR⟩ := hR
    refine cl_Vi (As := [.int p2]) (rest := []) (L := [(w_X6 ad (b1) cs S1)]) (L' := [(w_X6 ad (b1) cs S1)]) (Wc := [(w_X6 ad (b1) cs S1)]) (Wc' := [(w_X6 ad (b1) cs S1)]) (is := [0]) (js := []) ⟨hx, hb, hml, hown, hts⟩ (k_X6_has l dC dI cs ad (b1) H2.size S1 p2 q10 gq10) (cwV 1 hts gX6_way_X6_has rfl rfl rfl cd_X6_has ⟨Nat.le_of_ble_eq_true rfl, Nat.le_of_ble_eq_true rfl⟩) hK hP hD hS hA ⟨rfl, rfl, rfl, rfl, rfl, rfl⟩ (jn_nd (is := [0]) hD rfl rfl) 0 5 rfl rfl rfl rfl rfl hl.1 (Nat.le_of_ble_eq_true rfl) dX6_way_10 (fun H10 locs10 hP' hD' hS' => ?_)
    replace hS := hS'
    replace hP : va_P (dC, dI) vwCl (fl [(w_X6 ad (b1) cs S1)]) H10 := hP'
    replace hD : va_D A (fl [(w_X6 ad (b1) cs S1)]) := hD'
    clear hP' hD' hS'
    refine lv_if_eq (tgt := 35) hx hb dX6_way_13 (by decide) (fun c13 => ?_) (fun c13 => ?_)
    · replace hR := it_t hR c13
      refine lv_iconst (v := 0) hx hb dX6_way_35 ic_0 ?_
      replace hR := Option.some.inj hR
      have e9 := hR
      exact W.iret hx hb hr (fun t ht hW => ⟨⟨_, (), rfl, e9, by rw [ht]; exact hP, va_K.moved hW.alike hK, hD⟩, hS.F ht⟩) hS.2.2 dX6_way_36
    · replace hR := it_f hR c13
      refine lv_aload_n hx hb dX6_way_16 rfl (lv_at hl 0 rfl) ?_
      refine va_get (D := (dC, dI)) (ci := 5) (v := .ref (ad (b1 + 1))) (C := RX6) (T := TX6) (N := 5) hx hb hts hinX6 hown hK hP 0 rfl rfl 1 (by decide) hF11 (fun _ h9 => h9) rfl dX6_way_17 ?_
      refine lv_iload_n hx hb dX6_way_20 rfl (lv_at hl 1 rfl) ?_
      replace hR := gi_e hR
      obtain ⟨i21, hR⟩ := hR
      refine va_iald hx hb hK hP 1 0 rfl rfl i21 dX6_way_21 ?_
      refine lv_aload_n hx hb dX6_way_22 rfl (lv_at hl 0 rfl) ?_
      refine va_get (D := (dC, dI)) (ci := 5) (v := .ref (ad (b1 + 1))) (C := RX6) (T := TX6) (N := 5) hx hb hts hinX6 hown hK hP 0 rfl rfl 1 (by decide) hF11 (fun _ h9 => h9) rfl dX6_way_23 ?_
      refine lv_iload_n hx hb dX6_way_26 rfl (lv_at hl 2 rfl) ?_
      replace hR := gi_e hR
      obtain ⟨i27, hR⟩ := hR
      refine va_iald hx hb hK hP 1 0 rfl rfl i27 dX6_way_27 ?_
      refine lv_isub hx hb dX6_way_28 ?_
      refine va_mabs hx hb (hml.trans hl.1.symm) hown (hts (.methodLink RX6 38 Lib.Math.abs.name) (List.mem_of_getElem? (i := 2) rfl)) (hts (.static Lib.Math.abs.name) (List.mem_of_getElem? (i := 3) rfl)) (hts (.initialized "java/lang/Math") (List.mem_of_getElem? (i := 4) rfl)) (hts (.code Lib.Math.abs.name Lib.Math.abs.code 1 (some .int)) (List.mem_of_getElem? (i := 5) rfl)) (Nat.le_of_ble_eq_true rfl) (Nat.le_of_ble_eq_true rfl) (Nat.zero_le _) (Nat.zero_le _) dX6_way_29 ?_
      replace hR := bn_e hR
      obtain ⟨m29, em29, hR⟩ := hR
      refine tp_e em29 ?_
      refine lv_goto (tgt := 36) hx hb dX6_way_32 (by decide) ?_
      replace hR := Option.some.inj hR
      have e9 := hR
      exact W.iret hx hb hr (fun t ht hW => ⟨⟨_, (), rfl, e9, by rw [ht]; exact hP, va_K.moved hW.alike hK, hD⟩, hS.F ht⟩) hS.2.2 dX6_way_36
set_option maxHeartbeats 8000000 in
set_option maxRecDepth 100000 in
theorem k_X5_sendVan (l : Launch) (dC : Nat → ClassId) (dI : Nat → Nat → Nat) (cs : Nat → ClassId) (ad : Nat → Nat) (b1 : Nat) (sz : Nat) (S1 : T3) (p1 : Int32) (p2 : Int32) (r : Int32) (u1 : T3) (hR : fX5_sendVan S1 p1 p2 = some (r, u1)) : Met l yX5_sendVan wsX5_sendVan ({ frames := 2, cells := 0, slots := 0, locals := 43 } : Room) (va_Pc [.ref (ad b1), .int p1, .int p2] (pW dC dI (tyL cs) (fl [(w_X5 ad (b1) cs S1)]) sz)) (QI dC dI (tyL cs) (va_A (fl [(w_X5 ad (b1) cs S1)]) sz) (fl [(w_X5 ad (b1) cs u1)]) r) 0 0 (va_A (fl [(w_X5 ad (b1) cs S1)]) sz) := by
  refine mt_of (own := RX5) (cc := cX5_sendVan) (maxL := 4) (ret := (some .int)) (Qc := fun A => QI dC dI (tyL cs) A (fl [(w_X5 ad (b1) cs u1)]) r) rfl (by decide) rfl (Nat.le_of_ble_eq_true rfl) (fun p e s m below meth c A ls hsz hx hb hr hts hown hlocks hml hA hK hP hD hS hl => ?_)
  subst hsz
  have hl : lv_has ls 4 [(0, .ref (ad b1)), (1, .int p1), (2, .int p2)] := hl
  have hF12 := hts (.fieldLink RX5 12 "DockedBikes$Road" "stations" "LDockedBikes$Stations;") (List.mem_of_getElem? (i := 2) rfl)
  have hF35 := hts (.fieldLink RX5 35 "DockedBikes$Road" "vans" "LDockedBikes$Vans;") (List.mem_of_getElem? (i := 1) rfl)
  have hF62 := hts (.fieldLink RX5 62 "DockedBikes$Road" "time" "I") (List.mem_of_getElem? (i := 4) rfl)
  have hF157 := hts (.fieldLink RX5 157 "DockedBikes$Vans" "station" "[I") (List.mem_of_getElem? (i := 3) rfl)
  have hF177 := hts (.fieldLink RX5 177 "DockedBikes$Vans" "arrival" "[I") (List.mem_of_getElem? (i := 5) rfl)
  have hinX5 : ∀ w ∈ wsX50, w ∈ wsX5_sendVan := by decide +kernel
  have hinX8 : ∀ w ∈ wsX80, w ∈ wsX5_sendVan := by decide +kernel
  refine lv_aload_n hx hb dX5_sendVan_0 rfl (lv_at hl 0 rfl) ?_
  refine va_get (D := (dC, dI)) (ci := 4) (v := .ref (ad (b1 + 23))) (C := RX5) (T := TX5) (N := 6) hx hb hts hinX5 hown hK hP 0 rfl rfl 3 (by decide) hF35 (fun _ h9 => h9) rfl dX5_sendVan_1 ?_
  refine lv_iload_n hx hb dX5_sendVan_4 rfl (lv_at hl 1 rfl) ?_
  replace hR := bd_e hR
  obtain ⟨q5, gq5, hR⟩ := hR
  replace hP : va_P (dC, dI) vwCl (fl [[((ad b1), .inr (4, [.ref (ad (b1 + 1)), .ref (ad (b1 + 6)), .ref (ad (b1 + 13)), .ref (ad (b1 + 23)), .ref (ad (b1 + 27)), .int (S1 4 1 0)]))], (w_X6 ad (b1 + 1) cs (S1 0)), (w_X1 ad (b1 + 6) cs (S1 1)), (w_X4 ad (b1 + 13) cs (S1 2)), (w_X8 ad (b1 + 23) cs (S1 3)), [((ad (b1 + 27)), .inl (cs 0, 3, .inl (S1 4 0)))]]) s.heap := hP
  replace hD : va_D A (fl [[((ad b1), .inr (4, [.ref (ad (b1 + 1)), .ref (ad (b1 + 6)), .ref (ad (b1 + 13)), .ref (ad (b1 + 23)), .ref (ad (b1 + 27)), .int (S1 4 1 0)]))], (w_X6 ad (b1 + 1) cs (S1 0)), (w_X1 ad (b1 + 6) cs (S1 1)), (w_X4 ad (b1 + 13) cs (S1 2)), (w_X8 ad (b1 + 23) cs (S1 3)), [((ad (b1 + 27)), .inl (cs 0, 3, .inl (S1 4 0)))]]) := hD
  refine cl_Vi (As := [.int p1]) (rest := []) (L := [[((ad b1), .inr (4, [.ref (ad (b1 + 1)), .ref (ad (b1 + 6)), .ref (ad (b1 + 13)), .ref (ad (b1 + 23)), .ref (ad (b1 + 27)), .int (S1 4 1 0)]))], (w_X6 ad (b1 + 1) cs (S1 0)), (w_X1 ad (b1 + 6) cs (S1 1)), (w_X4 ad (b1 + 13) cs (S1 2)), (w_X8 ad (b1 + 23) cs (S1 3)), [((ad (b1 + 27)), .inl (cs 0, 3, .inl (S1 4 0)))]]) (L' := [[((ad b1), .inr (4, [.ref (ad (b1 + 1)), .ref (ad (b1 + 6)), .ref (ad (b1 + 13)), .ref (ad (b1 + 23)), .ref (ad (b1 + 27)), .int (S1 4 1 0)]))], (w_X6 ad (b1 + 1) cs (S1 0)), (w_X1 ad (b1 + 6) cs (S1 1)), (w_X4 ad (b1 + 13) cs (S1 2)), (w_X8 ad (b1 + 23) cs (S1 3)), [((ad (b1 + 27)), .inl (cs 0, 3, .inl (S1 4 0)))]]) (Wc := [(w_X8 ad (b1 + 23) cs (S1 3))]) (Wc' := [(w_X8 ad (b1 + 23) cs (S1 3))]) (is := [4]) (js := [0, 1, 2, 3, 5]) ⟨hx, hb, hml, hown, hts⟩ (k_X8_has l dC dI cs ad (b1 + 23) s.heap.size (S1 3) p1 q5 gq5) (cwV 1 hts gX5_sendVan_X8_has rfl rfl rfl cd_X8_has ⟨Nat.le_of_ble_eq_true rfl, Nat.le_of_ble_eq_true rfl⟩) hK hP hD hS hA ⟨rfl, rfl, rfl, rfl, rfl, rfl⟩ (jn_nd (is := [4]) hD rfl rfl) 23 7 rfl rfl rfl rfl rfl hl.1 (Nat.le_of_ble_eq_true rfl) dX5_sendVan_5 (fun H5 locs5 hP' hD' hS' => ?_)
  replace hS := hS'
  replace hP : va_P (dC, dI) vwCl (fl [(w_X5 ad (b1) cs S1)]) H5 := hP'
  replace hD : va_D A (fl [(w_X5 ad (b1) cs S1)]) := hD'
  clear hP' hD' hS'
  refine lv_if_eq (tgt := 22) hx hb dX5_sendVan_8 (by decide) (fun c8 => ?_) (fun c8 => ?_)
  · replace hR := it_t hR c8
    refine lv_iconst (v := (-1)) hx hb dX5_sendVan_22 ic_m1 ?_
    replace hR := Option.some.inj hR
    obtain ⟨e9, hR⟩ := Prod.mk.inj hR
    have eu1 := hR
    replace hP : va_P (dC, dI) vwCl (fl [(w_X5 ad (b1) cs u1)]) H5 := by rw [← eu1]; exact hP
    replace hD : va_D A (fl [(w_X5 ad (b1) cs u1)]) := by rw [← eu1]; exact hD
    exact W.iret hx hb hr (fun t ht hW => ⟨⟨_, (), rfl, e9, by rw [ht]; exact hP, va_K.moved hW.alike hK, hD⟩, hS.F ht⟩) hS.2.2 dX5_sendVan_23
  · replace hR := it_f hR c8
    refine lv_aload_n hx hb dX5_sendVan_11 rfl (lv_at hl 0 rfl) ?_
    refine va_get (D := (dC, dI)) (ci := 4) (v := .ref (ad (b1 + 1))) (C := RX5) (T := TX5) (N := 6) hx hb hts hinX5 hown hK hP 0 rfl rfl 0 (by decide) hF12 (fun _ h9 => h9) rfl dX5_sendVan_12 ?_
    refine lv_iload_n hx hb dX5_sendVan_15 rfl (lv_at hl 2 rfl) ?_
    replace hR := bd_e hR
    obtain ⟨q16, gq16, hR⟩ := hR
    replace hP : va_P (dC, dI) vwCl (fl [[((ad b1), .inr (4, [.ref (ad (b1 + 1)), .ref (ad (b1 + 6)), .ref (ad (b1 + 13)), .ref (ad (b1 + 23)), .ref (ad (b1 + 27)), .int (S1 4 1 0)]))], (w_X6 ad (b1 + 1) cs (S1 0)), (w_X1 ad (b1 + 6) cs (S1 1)), (w_X4 ad (b1 + 13) cs (S1 2)), (w_X8 ad (b1 + 23) cs (S1 3)), [((ad (b1 + 27)), .inl (cs 0, 3, .inl (S1 4 0)))]]) H5 := hP
    replace hD : va_D A (fl [[((ad b1), .inr (4, [.ref (ad (b1 + 1)), .ref (ad (b1 + 6)), .ref (ad (b1 + 13)), .ref (ad (b1 + 23)), .ref (ad (b1 + 27)), .int (S1 4 1 0)]))], (w_X6 ad (b1 + 1) cs (S1 0)), (w_X1 ad (b1 + 6) cs (S1 1)), (w_X4 ad (b1 + 13) cs (S1 2)), (w_X8 ad (b1 + 23) cs (S1 3)), [((ad (b1 + 27)), .inl (cs 0, 3, .inl (S1 4 0)))]]) := hD
    refine cl_Vi (As := [.int p2]) (rest := []) (L := [[((ad b1), .inr (4, [.ref (ad (b1 + 1)), .ref (ad (b1 + 6)), .ref (ad (b1 + 13)), .ref (ad (b1 + 23)), .ref (ad (b1 + 27)), .int (S1 4 1 0)]))], (w_X6 ad (b1 + 1) cs (S1 0)), (w_X1 ad (b1 + 6) cs (S1 1)), (w_X4 ad (b1 + 13) cs (S1 2)), (w_X8 ad (b1 + 23) cs (S1 3)), [((ad (b1 + 27)), .inl (cs 0, 3, .inl (S1 4 0)))]]) (L' := [[((ad b1), .inr (4, [.ref (ad (b1 + 1)), .ref (ad (b1 + 6)), .ref (ad (b1 + 13)), .ref (ad (b1 + 23)), .ref (ad (b1 + 27)), .int (S1 4 1 0)]))], (w_X6 ad (b1 + 1) cs (S1 0)), (w_X1 ad (b1 + 6) cs (S1 1)), (w_X4 ad (b1 + 13) cs (S1 2)), (w_X8 ad (b1 + 23) cs (S1 3)), [((ad (b1 + 27)), .inl (cs 0, 3, .inl (S1 4 0)))]]) (Wc := [(w_X6 ad (b1 + 1) cs (S1 0))]) (Wc' := [(w_X6 ad (b1 + 1) cs (S1 0))]) (is := [1]) (js := [0, 2, 3, 4, 5]) ⟨hx, hb, hml, hown, hts⟩ (k_X6_has l dC dI cs ad (b1 + 1) H5.size (S1 0) p2 q16 gq16) (cwV 1 hts gX5_sendVan_X6_has rfl rfl rfl cd_X6_has ⟨Nat.le_of_ble_eq_true rfl, Nat.le_of_ble_eq_true rfl⟩) hK hP hD hS hA ⟨rfl, rfl, rfl, rfl, rfl, rfl⟩ (jn_nd (is := [1]) hD rfl rfl) 1 5 rfl rfl rfl rfl rfl hl.1 (Nat.le_of_ble_eq_true rfl) dX5_sendVan_16 (fun H16 locs16 hP' hD' hS' => ?_)
    replace hS := hS'
    replace hP : va_P (dC, dI) vwCl (fl [(w_X5 ad (b1) cs S1)]) H16 := hP'
    replace hD : va_D A (fl [(w_X5 ad (b1) cs S1)]) := hD'
    clear hP' hD' hS'
    refine lv_if_ne (tgt := 24) hx hb dX5_sendVan_19 (by decide) (fun c19 => ?_) (fun c19 => ?_)
    · replace hR := it_f hR c19
      refine lv_aload_n hx hb dX5_sendVan_24 rfl (lv_at hl 0 rfl) ?_
      refine lv_iload_n hx hb dX5_sendVan_25 rfl (lv_at hl 1 rfl) ?_
      replace hR := bd_e hR
      obtain ⟨q26, gq26, hR⟩ := hR
      refine cl_Vi (As := [.int p1]) (rest := []) (L := [(w_X5 ad (b1) cs S1)]) (L' := [(w_X5 ad (b1) cs S1)]) (Wc := [(w_X5 ad (b1) cs S1)]) (Wc' := [(w_X5 ad (b1) cs S1)]) (is := [0]) (js := []) ⟨hx, hb, hml, hown, hts⟩ (k_X5_isUnderWay l dC dI cs ad (b1) H16.size S1 p1 q26 gq26) (cwV 1 hts gX5_sendVan_X5_isUnderWay rfl rfl rfl cd_X5_isUnderWay ⟨Nat.le_of_ble_eq_true rfl, Nat.le_of_ble_eq_true rfl⟩) hK hP hD hS hA ⟨rfl, rfl, rfl, rfl, rfl, rfl⟩ (jn_nd (is := [0]) hD rfl rfl) 0 4 rfl rfl rfl rfl rfl hl.1 (Nat.le_of_ble_eq_true rfl) dX5_sendVan_26 (fun H26 locs26 hP' hD' hS' => ?_)
      replace hS := hS'
      replace hP : va_P (dC, dI) vwCl (fl [(w_X5 ad (b1) cs S1)]) H26 := hP'
      replace hD : va_D A (fl [(w_X5 ad (b1) cs S1)]) := hD'
      clear hP' hD' hS'
      refine lv_if_ne (tgt := 45) hx hb dX5_sendVan_29 (by decide) (fun c29 => ?_) (fun c29 => ?_)
      · replace hR := it_f hR c29
        refine lv_bipush (v := (-2)) hx hb dX5_sendVan_45 bp_m2 ?_
        replace hR := Option.some.inj hR
        obtain ⟨e9, hR⟩ := Prod.mk.inj hR
        have eu1 := hR
        replace hP : va_P (dC, dI) vwCl (fl [(w_X5 ad (b1) cs u1)]) H26 := by rw [← eu1]; exact hP
        replace hD : va_D A (fl [(w_X5 ad (b1) cs u1)]) := by rw [← eu1]; exact hD
        exact W.iret hx hb hr (fun t ht hW => ⟨⟨_, (), rfl, e9, by rw [ht]; exact hP, va_K.moved hW.alike hK, hD⟩, hS.F ht⟩) hS.2.2 dX5_sendVan_47
      · replace hR := it_t hR c29
        refine lv_aload_n hx hb dX5_sendVan_32 rfl (lv_at hl 0 rfl) ?_
        refine va_get (D := (dC, dI)) (ci := 4) (v := .ref (ad (b1 + 23))) (C := RX5) (T := TX5) (N := 6) hx hb hts hinX5 hown hK hP 0 rfl rfl 3 (by decide) hF35 (fun _ h9 => h9) rfl dX5_sendVan_33 ?_
        refine va_get (D := (dC, dI)) (ci := 7) (v := .ref (ad (b1 + 23 + 1))) (C := RX8) (T := TX8) (N := 4) hx hb hts hinX8 hown hK hP 23 rfl rfl 1 (by decide) hF157 (fun _ h9 => h9) rfl dX5_sendVan_36 ?_
        refine lv_iload_n hx hb dX5_sendVan_39 rfl (lv_at hl 1 rfl) ?_
        replace hR := gi_e hR
        obtain ⟨i40, hR⟩ := hR
        refine va_iald hx hb hK hP 24 0 rfl rfl i40 dX5_sendVan_40 ?_
        refine lv_iload_n hx hb dX5_sendVan_41 rfl (lv_at hl 2 rfl) ?_
        refine lv_icmp_ne (tgt := 48) hx hb dX5_sendVan_42 (by decide) (fun c42 => ?_) (fun c42 => ?_)
        · replace hR := it_f hR c42
          refine lv_aload_n hx hb dX5_sendVan_48 rfl (lv_at hl 0 rfl) ?_
          refine va_get (D := (dC, dI)) (ci := 4) (v := .int (S1 4 1 0)) (C := RX5) (T := TX5) (N := 6) hx hb hts hinX5 hown hK hP 0 rfl rfl 5 (by decide) hF62 (fun _ h9 => h9) rfl dX5_sendVan_49 ?_
          refine lv_aload_n hx hb dX5_sendVan_52 rfl (lv_at hl 0 rfl) ?_
          refine va_get (D := (dC, dI)) (ci := 4) (v := .ref (ad (b1 + 1))) (C := RX5) (T := TX5) (N := 6) hx hb hts hinX5 hown hK hP 0 rfl rfl 0 (by decide) hF12 (fun _ h9 => h9) rfl dX5_sendVan_53 ?_
          refine lv_aload_n hx hb dX5_sendVan_56 rfl (lv_at hl 0 rfl) ?_
          refine va_get (D := (dC, dI)) (ci := 4) (v := .ref (ad (b1 + 23))) (C := RX5) (T := TX5) (N := 6) hx hb hts hinX5 hown hK hP 0 rfl rfl 3 (by decide) hF35 (fun _ h9 => h9) rfl dX5_sendVan_57 ?_
          refine va_get (D := (dC, dI)) (ci := 7) (v := .ref (ad (b1 + 23 + 1))) (C := RX8) (T := TX8) (N := 4) hx hb hts hinX8 hown hK hP 23 rfl rfl 1 (by decide) hF157 (fun _ h9 => h9) rfl dX5_sendVan_60 ?_
          refine lv_iload_n hx hb dX5_sendVan_63 rfl (lv_at hl 1 rfl) ?_
          replace hR := gi_e hR
          obtain ⟨i64, hR⟩ := hR
          refine va_iald hx hb hK hP 24 0 rfl rfl i64 dX5_sendVan_64 ?_
          refine lv_iload_n hx hb dX5_sendVan_65 rfl (lv_at hl 2 rfl) ?_
          replace hR := bd_e hR
          obtain ⟨q66, gq66, hR⟩ := hR
          replace hP : va_P (dC, dI) vwCl (fl [[((ad b1), .inr (4, [.ref (ad (b1 + 1)), .ref (ad (b1 + 6)), .ref (ad (b1 + 13)), .ref (ad (b1 + 23)), .ref (ad (b1 + 27)), .int (S1 4 1 0)]))], (w_X6 ad (b1 + 1) cs (S1 0)), (w_X1 ad (b1 + 6) cs (S1 1)), (w_X4 ad (b1 + 13) cs (S1 2)), (w_X8 ad (b1 + 23) cs (S1 3)), [((ad (b1 + 27)), .inl (cs 0, 3, .inl (S1 4 0)))]]) H26 := hP
          replace hD : va_D A (fl [[((ad b1), .inr (4, [.ref (ad (b1 + 1)), .ref (ad (b1 + 6)), .ref (ad (b1 + 13)), .ref (ad (b1 + 23)), .ref (ad (b1 + 27)), .int (S1 4 1 0)]))], (w_X6 ad (b1 + 1) cs (S1 0)), (w_X1 ad (b1 + 6) cs (S1 1)), (w_X4 ad (b1 + 13) cs (S1 2)), (w_X8 ad (b1 + 23) cs (S1 3)), [((ad (b1 + 27)), .inl (cs 0, 3, .inl (S1 4 0)))]]) := hD
          refine cl_Vi (As := [.int (S1 3 0 p1.toNatClampNeg), .int p2]) (rest := [.int (S1 4 1 0)]) (L := [[((ad b1), .inr (4, [.ref (ad (b1 + 1)), .ref (ad (b1 + 6)), .ref (ad (b1 + 13)), .ref (ad (b1 + 23)), .ref (ad (b1 + 27)), .int (S1 4 1 0)]))], (w_X6 ad (b1 + 1) cs (S1 0)), (w_X1 ad (b1 + 6) cs (S1 1)), (w_X4 ad (b1 + 13) cs (S1 2)), (w_X8 ad (b1 + 23) cs (S1 3)), [((ad (b1 + 27)), .inl (cs 0, 3, .inl (S1 4 0)))]]) (L' := [[((ad b1), .inr (4, [.ref (ad (b1 + 1)), .ref (ad (b1 + 6)), .ref (ad (b1 + 13)), .ref (ad (b1 + 23)), .ref (ad (b1 + 27)), .int (S1 4 1 0)]))], (w_X6 ad (b1 + 1) cs (S1 0)), (w_X1 ad (b1 + 6) cs (S1 1)), (w_X4 ad (b1 + 13) cs (S1 2)), (w_X8 ad (b1 + 23) cs (S1 3)), [((ad (b1 + 27)), .inl (cs 0, 3, .inl (S1 4 0)))]]) (Wc := [(w_X6 ad (b1 + 1) cs (S1 0))]) (Wc' := [(w_X6 ad (b1 + 1) cs (S1 0))]) (is := [1]) (js := [0, 2, 3, 4, 5]) ⟨hx, hb, hml, hown, hts⟩ (k_X6_way l dC dI cs ad (b1 + 1) H26.size (S1 0) (S1 3 0 p1.toNatClampNeg) p2 q66 gq66) (cwV 2 hts gX5_sendVan_X6_way rfl rfl rfl cd_X6_way ⟨Nat.le_of_ble_eq_true rfl, Nat.le_of_ble_eq_true rfl⟩) hK hP hD hS hA ⟨rfl, rfl, rfl, rfl, rfl, rfl⟩ (jn_nd (is := [1]) hD rfl rfl) 1 5 rfl rfl rfl rfl rfl hl.1 (Nat.le_of_ble_eq_true rfl) dX5_sendVan_66 (fun H66 locs66 hP' hD' hS' => ?_)
          replace hS := hS'
          replace hP : va_P (dC, dI) vwCl (fl [(w_X5 ad (b1) cs S1)]) H66 := hP'
          replace hD : va_D A (fl [(w_X5 ad (b1) cs S1)]) := hD'
          clear hP' hD' hS'
          refine lv_iconst (v := 2) hx hb dX5_sendVan_69 ic_2 ?_
          refine lv_idiv hx hb dX5_sendVan_70 (by decide) ?_
          refine lv_iadd hx hb dX5_sendVan_71 ?_
          refine lv_iconst (v := 1) hx hb dX5_sendVan_72 ic_1 ?_
          refine lv_iadd hx hb dX5_sendVan_73 ?_
          refine lv_istore_n (lv' := [(3, .int (((S1 4 1 0) + (q66 / 2)) + 1)), (0, .ref (ad b1)), (1, .int p1), (2, .int p2)]) hx hb dX5_sendVan_74 rfl hl (Nat.le_of_ble_eq_true rfl) rfl (fun ls hl => ?_)
          refine lv_aload_n hx hb dX5_sendVan_75 rfl (lv_at hl 1 rfl) ?_
          refine va_get (D := (dC, dI)) (ci := 4) (v := .ref (ad (b1 + 23))) (C := RX5) (T := TX5) (N := 6) hx hb hts hinX5 hown hK hP 0 rfl rfl 3 (by decide) hF35 (fun _ h9 => h9) rfl dX5_sendVan_76 ?_
          refine va_get (D := (dC, dI)) (ci := 7) (v := .ref (ad (b1 + 23 + 1))) (C := RX8) (T := TX8) (N := 4) hx hb hts hinX8 hown hK hP 23 rfl rfl 1 (by decide) hF157 (fun _ h9 => h9) rfl dX5_sendVan_79 ?_
          refine lv_iload_n hx hb dX5_sendVan_82 rfl (lv_at hl 2 rfl) ?_
          refine lv_iload_n hx hb dX5_sendVan_83 rfl (lv_at hl 3 rfl) ?_
          replace hR := gi_e hR
          obtain ⟨i84, hR⟩ := hR
          refine va_iast hx hb hK hP hD hS 24 0 rfl rfl i84 dX5_sendVan_84 (fun H84 locs84 hP' hD' hS' => ?_)
          replace hS := hS'
          have hP' : va_P (dC, dI) vwCl (fl [(w_X5 ad (b1) cs (sU S1 3 (sU (S1 3) 0 (sU (S1 3 0) p1.toNatClampNeg p2))))]) H84 := hP'
          have hD' : va_D A (fl [(w_X5 ad (b1) cs (sU S1 3 (sU (S1 3) 0 (sU (S1 3 0) p1.toNatClampNeg p2))))]) := hD'
          replace hR := bn_e hR
          obtain ⟨S1_84, eS1_84, hR⟩ := hR
          replace hP : va_P (dC, dI) vwCl (fl [(w_X5 ad (b1) cs S1_84)]) H84 := by rw [eS1_84]; exact hP'
          replace hD : va_D A (fl [(w_X5 ad (b1) cs S1_84)]) := by rw [eS1_84]; exact hD'
          clear hP' hD' hS'
          refine lv_aload_n hx hb dX5_sendVan_85 rfl (lv_at hl 1 rfl) ?_
          refine va_get (D := (dC, dI)) (ci := 4) (v := .ref (ad (b1 + 23))) (C := RX5) (T := TX5) (N := 6) hx hb hts hinX5 hown hK hP 0 rfl rfl 3 (by decide) hF35 (fun _ h9 => h9) rfl dX5_sendVan_86 ?_
          refine va_get (D := (dC, dI)) (ci := 7) (v := .ref (ad (b1 + 23 + 3))) (C := RX8) (T := TX8) (N := 4) hx hb hts hinX8 hown hK hP 23 rfl rfl 3 (by decide) hF177 (fun _ h9 => h9) rfl dX5_sendVan_89 ?_
          refine lv_iload_n hx hb dX5_sendVan_92 rfl (lv_at hl 2 rfl) ?_
          refine lv_iload_n hx hb dX5_sendVan_93 rfl (lv_at hl 0 rfl) ?_
          replace hR := gi_e hR
          obtain ⟨i94, hR⟩ := hR
          refine va_iast hx hb hK hP hD hS 26 0 rfl rfl i94 dX5_sendVan_94 (fun H94 locs94 hP' hD' hS' => ?_)
          replace hS := hS'
          have hP' : va_P (dC, dI) vwCl (fl [(w_X5 ad (b1) cs (sU S1_84 3 (sU (S1_84 3) 2 (sU (S1_84 3 2) p1.toNatClampNeg (((S1 4 1 0) + (q66 / 2)) + 1)))))]) H94 := hP'
          have hD' : va_D A (fl [(w_X5 ad (b1) cs (sU S1_84 3 (sU (S1_84 3) 2 (sU (S1_84 3 2) p1.toNatClampNeg (((S1 4 1 0) + (q66 / 2)) + 1)))))]) := hD'
          replace hR := bn_e hR
          obtain ⟨S1_94, eS1_94, hR⟩ := hR
          replace hP : va_P (dC, dI) vwCl (fl [(w_X5 ad (b1) cs S1_94)]) H94 := by rw [eS1_94]; exact hP'
          replace hD : va_D A (fl [(w_X5 ad (b1) cs S1_94)]) := by rw [eS1_94]; exact hD'
          clear hP' hD' hS'
          refine lv_iload_n hx hb dX5_sendVan_95 rfl (lv_at hl 0 rfl) ?_
          replace hR := Option.some.inj hR
          obtain ⟨e9, hR⟩ := Prod.mk.inj hR
          have eu1 := hR
          replace hP : va_P (dC, dI) vwCl (fl [(w_X5 ad (b1) cs u1)]) H94 := by rw [← eu1]; exact hP
          replace hD : va_D A (fl [(w_X5 ad (b1) cs u1)]) := by rw [← eu1]; exact hD
          exact W.iret hx hb hr (fun t ht hW => ⟨⟨_, (), rfl, e9, by rw [ht]; exact hP, va_K.moved hW.alike hK, hD⟩, hS.F ht⟩) hS.2.2 dX5_sendVan_96
        · replace hR := it_t hR c42
          refine lv_bipush (v := (-2)) hx hb dX5_sendVan_45 bp_m2 ?_
          replace hR := Option.some.inj hR
          obtain ⟨e9, hR⟩ := Prod.mk.inj hR
          have eu1 := hR
          replace hP : va_P (dC, dI) vwCl (fl [(w_X5 ad (b1) cs u1)]) H26 := by rw [← eu1]; exact hP
          replace hD : va_D A (fl [(w_X5 ad (b1) cs u1)]) := by rw [← eu1]; exact hD
          exact W.iret hx hb hr (fun t ht hW => ⟨⟨_, (), rfl, e9, by rw [ht]; exact hP, va_K.moved hW.alike hK, hD⟩, hS.F ht⟩) hS.2.2 dX5_sendVan_47
    · replace hR := it_t hR c19
      refine lv_iconst (v := (-1)) hx hb dX5_sendVan_22 ic_m1 ?_
      replace hR := Option.some.inj hR
      obtain ⟨e9, hR⟩ := Prod.mk.inj hR
      have eu1 := hR
      replace hP : va_P (dC, dI) vwCl (fl [(w_X5 ad (b1) cs u1)]) H16 := by rw [← eu1]; exact hP
      replace hD : va_D A (fl [(w_X5 ad (b1) cs u1)]) := by rw [← eu1]; exact hD
      exact W.iret hx hb hr (fun t ht hW => ⟨⟨_, (), rfl, e9, by rw [ht]; exact hP, va_K.moved hW.alike hK, hD⟩, hS.F ht⟩) hS.2.2 dX5_sendVan_23
set_option maxHeartbeats 8000000 in
set_option maxRecDepth 100000 in
theorem k_X5_handOver (l : Launch) (dC : Nat → ClassId) (dI : Nat → Nat → Nat) (cs : Nat → ClassId) (ad : Nat → Nat) (b1 : Nat) (sz : Nat) (S1 : T3) (p1 : Int32) (p2 : Int32) (r : Int32) (u1 : T3) (hR : fX5_handOver S1 p1 p2 = some (r, u1)) : Met l yX5_handOver wsX5_handOver ({ frames := 3, cells := 0, slots := 0, locals := 66 } : Room) (va_Pc [.ref (ad b1), .int p1, .int p2] (pW dC dI (tyL cs) (fl [(w_X5 ad (b1) cs S1)]) sz)) (QI dC dI (tyL cs) (va_A (fl [(w_X5 ad (b1) cs S1)]) sz) (fl [(w_X5 ad (b1) cs u1)]) r) 0 0 (va_A (fl [(w_X5 ad (b1) cs S1)]) sz) := by
  refine mt_of (own := RX5) (cc := cX5_handOver) (maxL := 3) (ret := (some .int)) (Qc := fun A => QI dC dI (tyL cs) A (fl [(w_X5 ad (b1) cs u1)]) r) rfl (by decide) rfl (Nat.le_of_ble_eq_true rfl) (fun p e s m below meth c A ls hsz hx hb hr hts hown hlocks hml hA hK hP hD hS hl => ?_)
  subst hsz
  have hl : lv_has ls 3 [(0, .ref (ad b1)), (1, .int p1), (2, .int p2)] := hl
  have hF21 := hts (.fieldLink RX5 21 "DockedBikes$Road" "bicycles" "LDockedBikes$Bicycles;") (List.mem_of_getElem? (i := 2) rfl)
  have hF35 := hts (.fieldLink RX5 35 "DockedBikes$Road" "vans" "LDockedBikes$Vans;") (List.mem_of_getElem? (i := 1) rfl)
  have hF39 := hts (.fieldLink RX5 39 "DockedBikes$Road" "settings" "[I") (List.mem_of_getElem? (i := 6) rfl)
  have hF62 := hts (.fieldLink RX5 62 "DockedBikes$Road" "time" "I") (List.mem_of_getElem? (i := 5) rfl)
  have hF157 := hts (.fieldLink RX5 157 "DockedBikes$Vans" "station" "[I") (List.mem_of_getElem? (i := 3) rfl)
  have hF180 := hts (.fieldLink RX5 180 "DockedBikes$Bicycles" "ready" "[I") (List.mem_of_getElem? (i := 4) rfl)
  have hinX1 : ∀ w ∈ wsX10, w ∈ wsX5_handOver := by decide +kernel
  have hinX5 : ∀ w ∈ wsX50, w ∈ wsX5_handOver := by decide +kernel
  have hinX8 : ∀ w ∈ wsX80, w ∈ wsX5_handOver := by decide +kernel
  refine lv_aload_n hx hb dX5_handOver_0 rfl (lv_at hl 0 rfl) ?_
  refine va_get (D := (dC, dI)) (ci := 4) (v := .ref (ad (b1 + 23))) (C := RX5) (T := TX5) (N := 6) hx hb hts hinX5 hown hK hP 0 rfl rfl 3 (by decide) hF35 (fun _ h9 => h9) rfl dX5_handOver_1 ?_
  refine lv_iload_n hx hb dX5_handOver_4 rfl (lv_at hl 1 rfl) ?_
  replace hR := bd_e hR
  obtain ⟨q5, gq5, hR⟩ := hR
  replace hP : va_P (dC, dI) vwCl (fl [[((ad b1), .inr (4, [.ref (ad (b1 + 1)), .ref (ad (b1 + 6)), .ref (ad (b1 + 13)), .ref (ad (b1 + 23)), .ref (ad (b1 + 27)), .int (S1 4 1 0)]))], (w_X6 ad (b1 + 1) cs (S1 0)), (w_X1 ad (b1 + 6) cs (S1 1)), (w_X4 ad (b1 + 13) cs (S1 2)), (w_X8 ad (b1 + 23) cs (S1 3)), [((ad (b1 + 27)), .inl (cs 0, 3, .inl (S1 4 0)))]]) s.heap := hP
  replace hD : va_D A (fl [[((ad b1), .inr (4, [.ref (ad (b1 + 1)), .ref (ad (b1 + 6)), .ref (ad (b1 + 13)), .ref (ad (b1 + 23)), .ref (ad (b1 + 27)), .int (S1 4 1 0)]))], (w_X6 ad (b1 + 1) cs (S1 0)), (w_X1 ad (b1 + 6) cs (S1 1)), (w_X4 ad (b1 + 13) cs (S1 2)), (w_X8 ad (b1 + 23) cs (S1 3)), [((ad (b1 + 27)), .inl (cs 0, 3, .inl (S1 4 0)))]]) := hD
  refine cl_Vi (As := [.int p1]) (rest := []) (L := [[((ad b1), .inr (4, [.ref (ad (b1 + 1)), .ref (ad (b1 + 6)), .ref (ad (b1 + 13)), .ref (ad (b1 + 23)), .ref (ad (b1 + 27)), .int (S1 4 1 0)]))], (w_X6 ad (b1 + 1) cs (S1 0)), (w_X1 ad (b1 + 6) cs (S1 1)), (w_X4 ad (b1 + 13) cs (S1 2)), (w_X8 ad (b1 + 23) cs (S1 3)), [((ad (b1 + 27)), .inl (cs 0, 3, .inl (S1 4 0)))]]) (L' := [[((ad b1), .inr (4, [.ref (ad (b1 + 1)), .ref (ad (b1 + 6)), .ref (ad (b1 + 13)), .ref (ad (b1 + 23)), .ref (ad (b1 + 27)), .int (S1 4 1 0)]))], (w_X6 ad (b1 + 1) cs (S1 0)), (w_X1 ad (b1 + 6) cs (S1 1)), (w_X4 ad (b1 + 13) cs (S1 2)), (w_X8 ad (b1 + 23) cs (S1 3)), [((ad (b1 + 27)), .inl (cs 0, 3, .inl (S1 4 0)))]]) (Wc := [(w_X8 ad (b1 + 23) cs (S1 3))]) (Wc' := [(w_X8 ad (b1 + 23) cs (S1 3))]) (is := [4]) (js := [0, 1, 2, 3, 5]) ⟨hx, hb, hml, hown, hts⟩ (k_X8_has l dC dI cs ad (b1 + 23) s.heap.size (S1 3) p1 q5 gq5) (cwV 1 hts gX5_handOver_X8_has rfl rfl rfl cd_X8_has ⟨Nat.le_of_ble_eq_true rfl, Nat.le_of_ble_eq_true rfl⟩) hK hP hD hS hA ⟨rfl, rfl, rfl, rfl, rfl, rfl⟩ (jn_nd (is := [4]) hD rfl rfl) 23 7 rfl rfl rfl rfl rfl hl.1 (Nat.le_of_ble_eq_true rfl) dX5_handOver_5 (fun H5 locs5 hP' hD' hS' => ?_)
  replace hS := hS'
  replace hP : va_P (dC, dI) vwCl (fl [(w_X5 ad (b1) cs S1)]) H5 := hP'
  replace hD : va_D A (fl [(w_X5 ad (b1) cs S1)]) := hD'
  clear hP' hD' hS'
  refine lv_if_eq (tgt := 22) hx hb dX5_handOver_8 (by decide) (fun c8 => ?_) (fun c8 => ?_)
  · replace hR := it_t hR c8
    refine lv_iconst (v := (-1)) hx hb dX5_handOver_22 ic_m1 ?_
    replace hR := Option.some.inj hR
    obtain ⟨e9, hR⟩ := Prod.mk.inj hR
    have eu1 := hR
    replace hP : va_P (dC, dI) vwCl (fl [(w_X5 ad (b1) cs u1)]) H5 := by rw [← eu1]; exact hP
    replace hD : va_D A (fl [(w_X5 ad (b1) cs u1)]) := by rw [← eu1]; exact hD
    exact W.iret hx hb hr (fun t ht hW => ⟨⟨_, (), rfl, e9, by rw [ht]; exact hP, va_K.moved hW.alike hK, hD⟩, hS.F ht⟩) hS.2.2 dX5_handOver_23
  · replace hR := it_f hR c8
    refine lv_aload_n hx hb dX5_handOver_11 rfl (lv_at hl 0 rfl) ?_
    refine va_get (D := (dC, dI)) (ci := 4) (v := .ref (ad (b1 + 6))) (C := RX5) (T := TX5) (N := 6) hx hb hts hinX5 hown hK hP 0 rfl rfl 1 (by decide) hF21 (fun _ h9 => h9) rfl dX5_handOver_12 ?_
    refine lv_iload_n hx hb dX5_handOver_15 rfl (lv_at hl 2 rfl) ?_
    replace hR := bd_e hR
    obtain ⟨q16, gq16, hR⟩ := hR
    replace hP : va_P (dC, dI) vwCl (fl [[((ad b1), .inr (4, [.ref (ad (b1 + 1)), .ref (ad (b1 + 6)), .ref (ad (b1 + 13)), .ref (ad (b1 + 23)), .ref (ad (b1 + 27)), .int (S1 4 1 0)]))], (w_X6 ad (b1 + 1) cs (S1 0)), (w_X1 ad (b1 + 6) cs (S1 1)), (w_X4 ad (b1 + 13) cs (S1 2)), (w_X8 ad (b1 + 23) cs (S1 3)), [((ad (b1 + 27)), .inl (cs 0, 3, .inl (S1 4 0)))]]) H5 := hP
    replace hD : va_D A (fl [[((ad b1), .inr (4, [.ref (ad (b1 + 1)), .ref (ad (b1 + 6)), .ref (ad (b1 + 13)), .ref (ad (b1 + 23)), .ref (ad (b1 + 27)), .int (S1 4 1 0)]))], (w_X6 ad (b1 + 1) cs (S1 0)), (w_X1 ad (b1 + 6) cs (S1 1)), (w_X4 ad (b1 + 13) cs (S1 2)), (w_X8 ad (b1 + 23) cs (S1 3)), [((ad (b1 + 27)), .inl (cs 0, 3, .inl (S1 4 0)))]]) := hD
    refine cl_Vi (As := [.int p2]) (rest := []) (L := [[((ad b1), .inr (4, [.ref (ad (b1 + 1)), .ref (ad (b1 + 6)), .ref (ad (b1 + 13)), .ref (ad (b1 + 23)), .ref (ad (b1 + 27)), .int (S1 4 1 0)]))], (w_X6 ad (b1 + 1) cs (S1 0)), (w_X1 ad (b1 + 6) cs (S1 1)), (w_X4 ad (b1 + 13) cs (S1 2)), (w_X8 ad (b1 + 23) cs (S1 3)), [((ad (b1 + 27)), .inl (cs 0, 3, .inl (S1 4 0)))]]) (L' := [[((ad b1), .inr (4, [.ref (ad (b1 + 1)), .ref (ad (b1 + 6)), .ref (ad (b1 + 13)), .ref (ad (b1 + 23)), .ref (ad (b1 + 27)), .int (S1 4 1 0)]))], (w_X6 ad (b1 + 1) cs (S1 0)), (w_X1 ad (b1 + 6) cs (S1 1)), (w_X4 ad (b1 + 13) cs (S1 2)), (w_X8 ad (b1 + 23) cs (S1 3)), [((ad (b1 + 27)), .inl (cs 0, 3, .inl (S1 4 0)))]]) (Wc := [(w_X1 ad (b1 + 6) cs (S1 1))]) (Wc' := [(w_X1 ad (b1 + 6) cs (S1 1))]) (is := [2]) (js := [0, 1, 3, 4, 5]) ⟨hx, hb, hml, hown, hts⟩ (k_X1_has l dC dI cs ad (b1 + 6) H5.size (S1 1) p2 q16 gq16) (cwV 1 hts gX5_handOver_X1_has rfl rfl rfl cd_X1_has ⟨Nat.le_of_ble_eq_true rfl, Nat.le_of_ble_eq_true rfl⟩) hK hP hD hS hA ⟨rfl, rfl, rfl, rfl, rfl, rfl⟩ (jn_nd (is := [2]) hD rfl rfl) 6 0 rfl rfl rfl rfl rfl hl.1 (Nat.le_of_ble_eq_true rfl) dX5_handOver_16 (fun H16 locs16 hP' hD' hS' => ?_)
    replace hS := hS'
    replace hP : va_P (dC, dI) vwCl (fl [(w_X5 ad (b1) cs S1)]) H16 := hP'
    replace hD : va_D A (fl [(w_X5 ad (b1) cs S1)]) := hD'
    clear hP' hD' hS'
    refine lv_if_ne (tgt := 24) hx hb dX5_handOver_19 (by decide) (fun c19 => ?_) (fun c19 => ?_)
    · replace hR := it_f hR c19
      refine lv_aload_n hx hb dX5_handOver_24 rfl (lv_at hl 0 rfl) ?_
      refine lv_iload_n hx hb dX5_handOver_25 rfl (lv_at hl 1 rfl) ?_
      refine lv_iload_n hx hb dX5_handOver_26 rfl (lv_at hl 2 rfl) ?_
      replace hR := bd_e hR
      obtain ⟨q27, gq27, hR⟩ := hR
      refine cl_Vi (As := [.int p1, .int p2]) (rest := []) (L := [(w_X5 ad (b1) cs S1)]) (L' := [(w_X5 ad (b1) cs S1)]) (Wc := [(w_X5 ad (b1) cs S1)]) (Wc' := [(w_X5 ad (b1) cs S1)]) (is := [0]) (js := []) ⟨hx, hb, hml, hown, hts⟩ (k_X5_canHandOut l dC dI cs ad (b1) H16.size S1 p1 p2 q27 gq27) (cwV 2 hts gX5_handOver_X5_canHandOut rfl rfl rfl cd_X5_canHandOut ⟨Nat.le_of_ble_eq_true rfl, Nat.le_of_ble_eq_true rfl⟩) hK hP hD hS hA ⟨rfl, rfl, rfl, rfl, rfl, rfl⟩ (jn_nd (is := [0]) hD rfl rfl) 0 4 rfl rfl rfl rfl rfl hl.1 (Nat.le_of_ble_eq_true rfl) dX5_handOver_27 (fun H27 locs27 hP' hD' hS' => ?_)
      replace hS := hS'
      replace hP : va_P (dC, dI) vwCl (fl [(w_X5 ad (b1) cs S1)]) H27 := hP'
      replace hD : va_D A (fl [(w_X5 ad (b1) cs S1)]) := hD'
      clear hP' hD' hS'
      refine lv_if_eq (tgt := 45) hx hb dX5_handOver_30 (by decide) (fun c30 => ?_) (fun c30 => ?_)
      · replace hR := it_t hR c30
        refine lv_bipush (v := (-2)) hx hb dX5_handOver_45 bp_m2 ?_
        replace hR := Option.some.inj hR
        obtain ⟨e9, hR⟩ := Prod.mk.inj hR
        have eu1 := hR
        replace hP : va_P (dC, dI) vwCl (fl [(w_X5 ad (b1) cs u1)]) H27 := by rw [← eu1]; exact hP
        replace hD : va_D A (fl [(w_X5 ad (b1) cs u1)]) := by rw [← eu1]; exact hD
        exact W.iret hx hb hr (fun t ht hW => ⟨⟨_, (), rfl, e9, by rw [ht]; exact hP, va_K.moved hW.alike hK, hD⟩, hS.F ht⟩) hS.2.2 dX5_handOver_47
      · replace hR := it_f hR c30
        refine lv_aload_n hx hb dX5_handOver_33 rfl (lv_at hl 0 rfl) ?_
        refine va_get (D := (dC, dI)) (ci := 4) (v := .ref (ad (b1 + 23))) (C := RX5) (T := TX5) (N := 6) hx hb hts hinX5 hown hK hP 0 rfl rfl 3 (by decide) hF35 (fun _ h9 => h9) rfl dX5_handOver_34 ?_
        refine va_get (D := (dC, dI)) (ci := 7) (v := .ref (ad (b1 + 23 + 1))) (C := RX8) (T := TX8) (N := 4) hx hb hts hinX8 hown hK hP 23 rfl rfl 1 (by decide) hF157 (fun _ h9 => h9) rfl dX5_handOver_37 ?_
        refine lv_iload_n hx hb dX5_handOver_40 rfl (lv_at hl 1 rfl) ?_
        replace hR := gi_e hR
        obtain ⟨i41, hR⟩ := hR
        refine va_iald hx hb hK hP 24 0 rfl rfl i41 dX5_handOver_41 ?_
        refine lv_if_eq (tgt := 48) hx hb dX5_handOver_42 (by decide) (fun c42 => ?_) (fun c42 => ?_)
        · replace hR := it_t hR c42
          refine lv_aload_n hx hb dX5_handOver_48 rfl (lv_at hl 0 rfl) ?_
          refine va_get (D := (dC, dI)) (ci := 4) (v := .ref (ad (b1 + 6))) (C := RX5) (T := TX5) (N := 6) hx hb hts hinX5 hown hK hP 0 rfl rfl 1 (by decide) hF21 (fun _ h9 => h9) rfl dX5_handOver_49 ?_
          refine lv_iload_n hx hb dX5_handOver_52 rfl (lv_at hl 2 rfl) ?_
          refine lv_iconst (v := 3) hx hb dX5_handOver_53 ic_3 ?_
          refine lv_iconst (v := (-1)) hx hb dX5_handOver_54 ic_m1 ?_
          replace hR := bd_e hR
          obtain ⟨q55, gq55, hR⟩ := hR
          replace hP : va_P (dC, dI) vwCl (fl [[((ad b1), .inr (4, [.ref (ad (b1 + 1)), .ref (ad (b1 + 6)), .ref (ad (b1 + 13)), .ref (ad (b1 + 23)), .ref (ad (b1 + 27)), .int (S1 4 1 0)]))], (w_X6 ad (b1 + 1) cs (S1 0)), (w_X1 ad (b1 + 6) cs (S1 1)), (w_X4 ad (b1 + 13) cs (S1 2)), (w_X8 ad (b1 + 23) cs (S1 3)), [((ad (b1 + 27)), .inl (cs 0, 3, .inl (S1 4 0)))]]) H27 := hP
          replace hD : va_D A (fl [[((ad b1), .inr (4, [.ref (ad (b1 + 1)), .ref (ad (b1 + 6)), .ref (ad (b1 + 13)), .ref (ad (b1 + 23)), .ref (ad (b1 + 27)), .int (S1 4 1 0)]))], (w_X6 ad (b1 + 1) cs (S1 0)), (w_X1 ad (b1 + 6) cs (S1 1)), (w_X4 ad (b1 + 13) cs (S1 2)), (w_X8 ad (b1 + 23) cs (S1 3)), [((ad (b1 + 27)), .inl (cs 0, 3, .inl (S1 4 0)))]]) := hD
          refine cl_Vv (As := [.int p2, .int (3 : Int32), .int (-1)]) (rest := []) (L := [[((ad b1), .inr (4, [.ref (ad (b1 + 1)), .ref (ad (b1 + 6)), .ref (ad (b1 + 13)), .ref (ad (b1 + 23)), .ref (ad (b1 + 27)), .int (S1 4 1 0)]))], (w_X6 ad (b1 + 1) cs (S1 0)), (w_X1 ad (b1 + 6) cs (S1 1)), (w_X4 ad (b1 + 13) cs (S1 2)), (w_X8 ad (b1 + 23) cs (S1 3)), [((ad (b1 + 27)), .inl (cs 0, 3, .inl (S1 4 0)))]]) (L' := [[((ad b1), .inr (4, [.ref (ad (b1 + 1)), .ref (ad (b1 + 6)), .ref (ad (b1 + 13)), .ref (ad (b1 + 23)), .ref (ad (b1 + 27)), .int ((sU S1 1 q55) 4 1 0)]))], (w_X6 ad (b1 + 1) cs ((sU S1 1 q55) 0)), (w_X1 ad (b1 + 6) cs ((sU S1 1 q55) 1)), (w_X4 ad (b1 + 13) cs ((sU S1 1 q55) 2)), (w_X8 ad (b1 + 23) cs ((sU S1 1 q55) 3)), [((ad (b1 + 27)), .inl (cs 0, 3, .inl ((sU S1 1 q55) 4 0)))]]) (Wc := [(w_X1 ad (b1 + 6) cs (S1 1))]) (Wc' := [(w_X1 ad (b1 + 6) cs q55)]) (is := [2]) (js := [0, 1, 3, 4, 5]) ⟨hx, hb, hml, hown, hts⟩ (k_X1_bring l dC dI cs ad (b1 + 6) H27.size (S1 1) p2 (3 : Int32) (-1) q55 gq55) (cwV 3 hts gX5_handOver_X1_bring rfl rfl rfl cd_X1_bring ⟨Nat.le_of_ble_eq_true rfl, Nat.le_of_ble_eq_true rfl⟩) hK hP hD hS hA ⟨rfl, rfl, rfl, rfl, rfl, rfl⟩ (jn_nd (is := [2]) hD rfl rfl) 6 0 rfl rfl rfl rfl rfl hl.1 (Nat.le_of_ble_eq_true rfl) dX5_handOver_55 (fun H55 locs55 hP' hD' hS' => ?_)
          replace hS := hS'
          have hP' : va_P (dC, dI) vwCl (fl [(w_X5 ad (b1) cs (sU S1 1 q55))]) H55 := hP'
          have hD' : va_D A (fl [(w_X5 ad (b1) cs (sU S1 1 q55))]) := hD'
          replace hR := bn_e hR
          obtain ⟨S1_55, eS1_55, hR⟩ := hR
          replace hP : va_P (dC, dI) vwCl (fl [(w_X5 ad (b1) cs S1_55)]) H55 := by rw [eS1_55]; exact hP'
          replace hD : va_D A (fl [(w_X5 ad (b1) cs S1_55)]) := by rw [eS1_55]; exact hD'
          clear hP' hD' hS'
          refine lv_aload_n hx hb dX5_handOver_58 rfl (lv_at hl 0 rfl) ?_
          refine va_get (D := (dC, dI)) (ci := 4) (v := .ref (ad (b1 + 6))) (C := RX5) (T := TX5) (N := 6) hx hb hts hinX5 hown hK hP 0 rfl rfl 1 (by decide) hF21 (fun _ h9 => h9) rfl dX5_handOver_59 ?_
          refine va_get (D := (dC, dI)) (ci := 0) (v := .ref (ad (b1 + 6 + 6))) (C := RX1) (T := TX1) (N := 7) hx hb hts hinX1 hown hK hP 6 rfl rfl 6 (by decide) hF180 (fun _ h9 => h9) rfl dX5_handOver_62 ?_
          refine lv_iload_n hx hb dX5_handOver_65 rfl (lv_at hl 2 rfl) ?_
          refine lv_aload_n hx hb dX5_handOver_66 rfl (lv_at hl 0 rfl) ?_
          refine va_get (D := (dC, dI)) (ci := 4) (v := .int (S1_55 4 1 0)) (C := RX5) (T := TX5) (N := 6) hx hb hts hinX5 hown hK hP 0 rfl rfl 5 (by decide) hF62 (fun _ h9 => h9) rfl dX5_handOver_67 ?_
          refine lv_aload_n hx hb dX5_handOver_70 rfl (lv_at hl 0 rfl) ?_
          refine va_get (D := (dC, dI)) (ci := 4) (v := .ref (ad (b1 + 27))) (C := RX5) (T := TX5) (N := 6) hx hb hts hinX5 hown hK hP 0 rfl rfl 4 (by decide) hF39 (fun _ h9 => h9) rfl dX5_handOver_71 ?_
          refine lv_iconst (v := 1) hx hb dX5_handOver_74 ic_1 ?_
          refine va_iald hx hb hK hP 27 0 rfl rfl vi_1_3 dX5_handOver_75 ?_
          refine lv_iadd hx hb dX5_handOver_76 ?_
          replace hR := gi_e hR
          obtain ⟨i77, hR⟩ := hR
          refine va_iast hx hb hK hP hD hS 12 0 rfl rfl i77 dX5_handOver_77 (fun H77 locs77 hP' hD' hS' => ?_)
          replace hS := hS'
          have hP' : va_P (dC, dI) vwCl (fl [(w_X5 ad (b1) cs (sU S1_55 1 (sU (S1_55 1) 5 (sU (S1_55 1 5) p2.toNatClampNeg ((S1_55 4 1 0) + (S1_55 4 0 (1 : Int32).toNatClampNeg))))))]) H77 := hP'
          have hD' : va_D A (fl [(w_X5 ad (b1) cs (sU S1_55 1 (sU (S1_55 1) 5 (sU (S1_55 1 5) p2.toNatClampNeg ((S1_55 4 1 0) + (S1_55 4 0 (1 : Int32).toNatClampNeg))))))]) := hD'
          replace hR := bn_e hR
          obtain ⟨S1_77, eS1_77, hR⟩ := hR
          replace hP : va_P (dC, dI) vwCl (fl [(w_X5 ad (b1) cs S1_77)]) H77 := by rw [eS1_77]; exact hP'
          replace hD : va_D A (fl [(w_X5 ad (b1) cs S1_77)]) := by rw [eS1_77]; exact hD'
          clear hP' hD' hS'
          refine lv_aload_n hx hb dX5_handOver_78 rfl (lv_at hl 0 rfl) ?_
          refine va_get (D := (dC, dI)) (ci := 4) (v := .ref (ad (b1 + 6))) (C := RX5) (T := TX5) (N := 6) hx hb hts hinX5 hown hK hP 0 rfl rfl 1 (by decide) hF21 (fun _ h9 => h9) rfl dX5_handOver_79 ?_
          refine va_get (D := (dC, dI)) (ci := 0) (v := .ref (ad (b1 + 6 + 6))) (C := RX1) (T := TX1) (N := 7) hx hb hts hinX1 hown hK hP 6 rfl rfl 6 (by decide) hF180 (fun _ h9 => h9) rfl dX5_handOver_82 ?_
          refine lv_iload_n hx hb dX5_handOver_85 rfl (lv_at hl 2 rfl) ?_
          replace hR := gi_e hR
          obtain ⟨i86, hR⟩ := hR
          refine va_iald hx hb hK hP 12 0 rfl rfl i86 dX5_handOver_86 ?_
          replace hR := Option.some.inj hR
          obtain ⟨e9, hR⟩ := Prod.mk.inj hR
          have eu1 := hR
          replace hP : va_P (dC, dI) vwCl (fl [(w_X5 ad (b1) cs u1)]) H77 := by rw [← eu1]; exact hP
          replace hD : va_D A (fl [(w_X5 ad (b1) cs u1)]) := by rw [← eu1]; exact hD
          exact W.iret hx hb hr (fun t ht hW => ⟨⟨_, (), rfl, e9, by rw [ht]; exact hP, va_K.moved hW.alike hK, hD⟩, hS.F ht⟩) hS.2.2 dX5_handOver_87
        · replace hR := it_f hR c42
          refine lv_bipush (v := (-2)) hx hb dX5_handOver_45 bp_m2 ?_
          replace hR := Option.some.inj hR
          obtain ⟨e9, hR⟩ := Prod.mk.inj hR
          have eu1 := hR
          replace hP : va_P (dC, dI) vwCl (fl [(w_X5 ad (b1) cs u1)]) H27 := by rw [← eu1]; exact hP
          replace hD : va_D A (fl [(w_X5 ad (b1) cs u1)]) := by rw [← eu1]; exact hD
          exact W.iret hx hb hr (fun t ht hW => ⟨⟨_, (), rfl, e9, by rw [ht]; exact hP, va_K.moved hW.alike hK, hD⟩, hS.F ht⟩) hS.2.2 dX5_handOver_47
    · replace hR := it_t hR c19
      refine lv_iconst (v := (-1)) hx hb dX5_handOver_22 ic_m1 ?_
      replace hR := Option.some.inj hR
      obtain ⟨e9, hR⟩ := Prod.mk.inj hR
      have eu1 := hR
      replace hP : va_P (dC, dI) vwCl (fl [(w_X5 ad (b1) cs u1)]) H16 := by rw [← eu1]; exact hP
      replace hD : va_D A (fl [(w_X5 ad (b1) cs u1)]) := by rw [← eu1]; exact hD
      exact W.iret hx hb hr (fun t ht hW => ⟨⟨_, (), rfl, e9, by rw [ht]; exact hP, va_K.moved hW.alike hK, hD⟩, hS.F ht⟩) hS.2.2 dX5_handOver_23
set_option maxHeartbeats 8000000 in
set_option maxRecDepth 100000 in
theorem k_X5_firstWithFreeDock (l : Launch) (dC : Nat → ClassId) (dI : Nat → Nat → Nat) (cs : Nat → ClassId) (ad : Nat → Nat) (b1 : Nat) (sz : Nat) (S1 : T3) (r : Int32) (hR : fX5_firstWithFreeDock S1 = some r) : Met l yX5_firstWithFreeDock wsX5_firstWithFreeDock ({ frames := 1, cells := 0, slots := 0, locals := 24 } : Room) (va_Pc [.ref (ad b1)] (pW dC dI (tyL cs) (fl [(w_X5 ad (b1) cs S1)]) sz)) (QI dC dI (tyL cs) (va_A (fl [(w_X5 ad (b1) cs S1)]) sz) (fl [(w_X5 ad (b1) cs S1)]) r) 0 0 (va_A (fl [(w_X5 ad (b1) cs S1)]) sz) := by
  refine mt_of (own := RX5) (cc := cX5_firstWithFreeDock) (maxL := 2) (ret := (some .int)) (Qc := fun A => QI dC dI (tyL cs) A (fl [(w_X5 ad (b1) cs S1)]) r) rfl (by decide) rfl (Nat.le_of_ble_eq_true rfl) (fun p e s m below meth c A ls hsz hx hb hr hts hown hlocks hml hA hK hP hD hS hl => ?_)
  subst hsz
  have hl : lv_has ls 2 [(0, .ref (ad b1))] := hl
  have hF12 := hts (.fieldLink RX5 12 "DockedBikes$Road" "stations" "LDockedBikes$Stations;") (List.mem_of_getElem? (i := 1) rfl)
  have hF21 := hts (.fieldLink RX5 21 "DockedBikes$Road" "bicycles" "LDockedBikes$Bicycles;") (List.mem_of_getElem? (i := 3) rfl)
  have hF192 := hts (.fieldLink RX5 192 "DockedBikes$Stations" "docks" "[I") (List.mem_of_getElem? (i := 4) rfl)
  have hF198 := hts (.fieldLink RX5 198 "DockedBikes$Stations" "size" "I") (List.mem_of_getElem? (i := 2) rfl)
  have hinX5 : ∀ w ∈ wsX50, w ∈ wsX5_firstWithFreeDock := by decide +kernel
  have hinX6 : ∀ w ∈ wsX60, w ∈ wsX5_firstWithFreeDock := by decide +kernel
  have hB2 : ∀ (n2 : Nat), ∀ (v1_2 : Int32) (H : Heap) (locs : List Loc) (ls : Array Slot), fX5_firstWithFreeDock_2 S1 n2 v1_2 = some r → va_P (dC, dI) vwCl (fl [(w_X5 ad (b1) cs S1)]) H → va_D A (fl [(w_X5 ad (b1) cs S1)]) → va_S A s.heap H locs → lv_has ls 2 [(0, .ref (ad b1)), (1, .int v1_2)] → W p l e (headSpec wsX5_firstWithFreeDock ({ frames := 1, cells := 0, slots := 0, locals := 24 } : Room)).room s m ([.ref (ad b1)] : List Value).toArray below meth c H locs 0 0 (MQ below (QI dC dI (tyL cs) A (fl [(w_X5 ad (b1) cs S1)]) r) ([.ref (ad b1)] : List Value).toArray s 0 0 A) (F0 m 2 ls []) := by
    intro n2
    induction n2 with
    | zero =>
      intro v1_2 H locs ls hR hP hD hS hl
      exact nn_e hR
    | succ n2 hI2 =>
      intro v1_2 H locs ls hR hP hD hS hl
      rw [fX5_firstWithFreeDock_2] at hR
      refine lv_iload_n hx hb dX5_firstWithFreeDock_2 rfl (lv_at hl 1 rfl) ?_
      refine lv_aload_n hx hb dX5_firstWithFreeDock_3 rfl (lv_at hl 0 rfl) ?_
      refine va_get (D := (dC, dI)) (ci := 4) (v := .ref (ad (b1 + 1))) (C := RX5) (T := TX5) (N := 6) hx hb hts hinX5 hown hK hP 0 rfl rfl 0 (by decide) hF12 (fun _ h9 => h9) rfl dX5_firstWithFreeDock_4 ?_
      refine va_get (D := (dC, dI)) (ci := 5) (v := .int (S1 0 4 0)) (C := RX6) (T := TX6) (N := 5) hx hb hts hinX6 hown hK hP 1 rfl rfl 0 (by decide) hF198 (fun _ h9 => h9) rfl dX5_firstWithFreeDock_7 ?_
      refine lv_icmp_ge (tgt := 42) hx hb dX5_firstWithFreeDock_10 (by decide) (fun c10 => ?_) (fun c10 => ?_)
      · replace hR := it_t hR c10
        refine lv_iconst (v := (-1)) hx hb dX5_firstWithFreeDock_42 ic_m1 ?_
        replace hR := Option.some.inj hR
        have e9 := hR
        exact W.iret hx hb hr (fun t ht hW => ⟨⟨_, (), rfl, e9, by rw [ht]; exact hP, va_K.moved hW.alike hK, hD⟩, hS.F ht⟩) hS.2.2 dX5_firstWithFreeDock_43
      · replace hR := it_f hR c10
        refine lv_aload_n hx hb dX5_firstWithFreeDock_13 rfl (lv_at hl 0 rfl) ?_
        refine va_get (D := (dC, dI)) (ci := 4) (v := .ref (ad (b1 + 6))) (C := RX5) (T := TX5) (N := 6) hx hb hts hinX5 hown hK hP 0 rfl rfl 1 (by decide) hF21 (fun _ h9 => h9) rfl dX5_firstWithFreeDock_14 ?_
        refine lv_iconst (v := 0) hx hb dX5_firstWithFreeDock_17 ic_0 ?_
        refine lv_iload_n hx hb dX5_firstWithFreeDock_18 rfl (lv_at hl 1 rfl) ?_
        replace hR := bd_e hR
        obtain ⟨q19, gq19, hR⟩ := hR
        replace hP : va_P (dC, dI) vwCl (fl [[((ad b1), .inr (4, [.ref (ad (b1 + 1)), .ref (ad (b1 + 6)), .ref (ad (b1 + 13)), .ref (ad (b1 + 23)), .ref (ad (b1 + 27)), .int (S1 4 1 0)]))], (w_X6 ad (b1 + 1) cs (S1 0)), (w_X1 ad (b1 + 6) cs (S1 1)), (w_X4 ad (b1 + 13) cs (S1 2)), (w_X8 ad (b1 + 23) cs (S1 3)), [((ad (b1 + 27)), .inl (cs 0, 3, .inl (S1 4 0)))]]) H := hP
        replace hD : va_D A (fl [[((ad b1), .inr (4, [.ref (ad (b1 + 1)), .ref (ad (b1 + 6)), .ref (ad (b1 + 13)), .ref (ad (b1 + 23)), .ref (ad (b1 + 27)), .int (S1 4 1 0)]))], (w_X6 ad (b1 + 1) cs (S1 0)), (w_X1 ad (b1 + 6) cs (S1 1)), (w_X4 ad (b1 + 13) cs (S1 2)), (w_X8 ad (b1 + 23) cs (S1 3)), [((ad (b1 + 27)), .inl (cs 0, 3, .inl (S1 4 0)))]]) := hD
        refine cl_Vi (As := [.int (0 : Int32), .int v1_2]) (rest := []) (L := [[((ad b1), .inr (4, [.ref (ad (b1 + 1)), .ref (ad (b1 + 6)), .ref (ad (b1 + 13)), .ref (ad (b1 + 23)), .ref (ad (b1 + 27)), .int (S1 4 1 0)]))], (w_X6 ad (b1 + 1) cs (S1 0)), (w_X1 ad (b1 + 6) cs (S1 1)), (w_X4 ad (b1 + 13) cs (S1 2)), (w_X8 ad (b1 + 23) cs (S1 3)), [((ad (b1 + 27)), .inl (cs 0, 3, .inl (S1 4 0)))]]) (L' := [[((ad b1), .inr (4, [.ref (ad (b1 + 1)), .ref (ad (b1 + 6)), .ref (ad (b1 + 13)), .ref (ad (b1 + 23)), .ref (ad (b1 + 27)), .int (S1 4 1 0)]))], (w_X6 ad (b1 + 1) cs (S1 0)), (w_X1 ad (b1 + 6) cs (S1 1)), (w_X4 ad (b1 + 13) cs (S1 2)), (w_X8 ad (b1 + 23) cs (S1 3)), [((ad (b1 + 27)), .inl (cs 0, 3, .inl (S1 4 0)))]]) (Wc := [(w_X1 ad (b1 + 6) cs (S1 1))]) (Wc' := [(w_X1 ad (b1 + 6) cs (S1 1))]) (is := [2]) (js := [0, 1, 3, 4, 5]) ⟨hx, hb, hml, hown, hts⟩ (k_X1_countAt l dC dI cs ad (b1 + 6) H.size (S1 1) (0 : Int32) v1_2 q19 gq19) (cwV 2 hts gX5_firstWithFreeDock_X1_countAt rfl rfl rfl cd_X1_countAt ⟨Nat.le_of_ble_eq_true rfl, Nat.le_of_ble_eq_true rfl⟩) hK hP hD hS hA ⟨rfl, rfl, rfl, rfl, rfl, rfl⟩ (jn_nd (is := [2]) hD rfl rfl) 6 0 rfl rfl rfl rfl rfl hl.1 (Nat.le_of_ble_eq_true rfl) dX5_firstWithFreeDock_19 (fun H19 locs19 hP' hD' hS' => ?_)
        replace hS := hS'
        replace hP : va_P (dC, dI) vwCl (fl [(w_X5 ad (b1) cs S1)]) H19 := hP'
        replace hD : va_D A (fl [(w_X5 ad (b1) cs S1)]) := hD'
        clear hP' hD' hS'
        refine lv_aload_n hx hb dX5_firstWithFreeDock_22 rfl (lv_at hl 0 rfl) ?_
        refine va_get (D := (dC, dI)) (ci := 4) (v := .ref (ad (b1 + 1))) (C := RX5) (T := TX5) (N := 6) hx hb hts hinX5 hown hK hP 0 rfl rfl 0 (by decide) hF12 (fun _ h9 => h9) rfl dX5_firstWithFreeDock_23 ?_
        refine va_get (D := (dC, dI)) (ci := 5) (v := .ref (ad (b1 + 1 + 2))) (C := RX6) (T := TX6) (N := 5) hx hb hts hinX6 hown hK hP 1 rfl rfl 2 (by decide) hF192 (fun _ h9 => h9) rfl dX5_firstWithFreeDock_26 ?_
        refine lv_iload_n hx hb dX5_firstWithFreeDock_29 rfl (lv_at hl 1 rfl) ?_
        replace hR := gi_e hR
        obtain ⟨i30, hR⟩ := hR
        refine va_iald hx hb hK hP 3 0 rfl rfl i30 dX5_firstWithFreeDock_30 ?_
        refine lv_icmp_ge (tgt := 36) hx hb dX5_firstWithFreeDock_31 (by decide) (fun c31 => ?_) (fun c31 => ?_)
        · replace hR := it_t hR c31
          refine lv_iinc (v := (v1_2 + 1)) (lv' := [(1, .int (v1_2 + 1)), (0, .ref (ad b1))]) hx hb dX5_firstWithFreeDock_36 hl (k := 1) rfl rfl (Nat.le_of_ble_eq_true rfl) rfl (fun ls hl => ?_)
          refine lv_goto (tgt := 2) hx hb dX5_firstWithFreeDock_39 (by decide) ?_
          exact hI2 (v1_2 + 1) H19 _ ls hR hP hD hS (lv_sub hl [1, 0] rfl)
        · replace hR := it_f hR c31
          refine lv_iload_n hx hb dX5_firstWithFreeDock_34 rfl (lv_at hl 1 rfl) ?_
          replace hR := Option.some.inj hR
          have e9 := hR
          exact W.iret hx hb hr (fun t ht hW => ⟨⟨_, (), rfl, e9, by rw [ht]; exact hP, va_K.moved hW.alike hK, hD⟩, hS.F ht⟩) hS.2.2 dX5_firstWithFreeDock_35
  refine lv_iconst (v := 0) hx hb dX5_firstWithFreeDock_0 ic_0 ?_
  refine lv_istore_n (lv' := [(1, .int (0 : Int32)), (0, .ref (ad b1))]) hx hb dX5_firstWithFreeDock_1 rfl hl (Nat.le_of_ble_eq_true rfl) rfl (fun ls hl => ?_)
  exact hB2 fuel (0 : Int32) s.heap _ ls hR hP hD hS (lv_sub hl [1, 0] rfl)
set_option maxHeartbeats 8000000 in
set_option maxRecDepth 100000 in
theorem k_X5_dockReadyBicycles (l : Launch) (dC : Nat → ClassId) (dI : Nat → Nat → Nat) (cs : Nat → ClassId) (ad : Nat → Nat) (b1 : Nat) (sz : Nat) (S1 : T3) (r : Int32) (u1 : T3) (hR : fX5_dockReadyBicycles S1 = some (r, u1)) : Met l yX5_dockReadyBicycles wsX5_dockReadyBicycles ({ frames := 2, cells := 0, slots := 0, locals := 45 } : Room) (va_Pc [.ref (ad b1)] (pW dC dI (tyL cs) (fl [(w_X5 ad (b1) cs S1)]) sz)) (QI dC dI (tyL cs) (va_A (fl [(w_X5 ad (b1) cs S1)]) sz) (fl [(w_X5 ad (b1) cs u1)]) r) 0 0 (va_A (fl [(w_X5 ad (b1) cs S1)]) sz) := by
  refine mt_of (own := RX5) (cc := cX5_dockReadyBicycles) (maxL := 4) (ret := (some .int)) (Qc := fun A => QI dC dI (tyL cs) A (fl [(w_X5 ad (b1) cs u1)]) r) rfl (by decide) rfl (Nat.le_of_ble_eq_true rfl) (fun p e s m below meth c A ls hsz hx hb hr hts hown hlocks hml hA hK hP hD hS hl => ?_)
  subst hsz
  have hl : lv_has ls 4 [(0, .ref (ad b1))] := hl
  have hF21 := hts (.fieldLink RX5 21 "DockedBikes$Road" "bicycles" "LDockedBikes$Bicycles;") (List.mem_of_getElem? (i := 1) rfl)
  have hF62 := hts (.fieldLink RX5 62 "DockedBikes$Road" "time" "I") (List.mem_of_getElem? (i := 3) rfl)
  have hF204 := hts (.fieldLink RX5 204 "DockedBikes$Bicycles" "size" "I") (List.mem_of_getElem? (i := 2) rfl)
  have hinX1 : ∀ w ∈ wsX10, w ∈ wsX5_dockReadyBicycles := by decide +kernel
  have hinX5 : ∀ w ∈ wsX50, w ∈ wsX5_dockReadyBicycles := by decide +kernel
  have hB4 : ∀ (n4 : Nat), ∀ (S1_4h : T3) (v1_4 : Int32) (v2_4 : Int32) (H : Heap) (locs : List Loc) (ls : Array Slot), fX5_dockReadyBicycles_4 n4 S1_4h v1_4 v2_4 = some (r, u1) → va_P (dC, dI) vwCl (fl [(w_X5 ad (b1) cs S1_4h)]) H → va_D A (fl [(w_X5 ad (b1) cs S1_4h)]) → va_S A s.heap H locs → lv_has ls 4 [(0, .ref (ad b1)), (1, .int v1_4), (2, .int v2_4)] → W p l e (headSpec wsX5_dockReadyBicycles ({ frames := 2, cells := 0, slots := 0, locals := 45 } : Room)).room s m ([.ref (ad b1)] : List Value).toArray below meth c H locs 0 0 (MQ below (QI dC dI (tyL cs) A (fl [(w_X5 ad (b1) cs u1)]) r) ([.ref (ad b1)] : List Value).toArray s 0 0 A) (F0 m 4 ls []) := by
    intro n4
    induction n4 with
    | zero =>
      intro S1_4h v1_4 v2_4 H locs ls hR hP hD hS hl
      exact nn_e hR
    | succ n4 hI4 =>
      have hB60 : ∀ (S1_60h : T3) (v1_60 : Int32) (v2_60 : Int32) (H : Heap) (locs : List Loc) (ls : Array Slot), fX5_dockReadyBicycles_60 (fX5_dockReadyBicycles_4 n4) S1_60h v1_60 v2_60 = some (r, u1) → va_P (dC, dI) vwCl (fl [(w_X5 ad (b1) cs S1_60h)]) H → va_D A (fl [(w_X5 ad (b1) cs S1_60h)]) → va_S A s.heap H locs → lv_has ls 4 [(0, .ref (ad b1)), (1, .int v1_60), (2, .int v2_60)] → W p l e (headSpec wsX5_dockReadyBicycles ({ frames := 2, cells := 0, slots := 0, locals := 45 } : Room)).room s m ([.ref (ad b1)] : List Value).toArray below meth c H locs 0 0 (MQ below (QI dC dI (tyL cs) A (fl [(w_X5 ad (b1) cs u1)]) r) ([.ref (ad b1)] : List Value).toArray s 0 0 A) (F0 m 60 ls []) := by
        intro S1_60h v1_60 v2_60 H locs ls hR hP hD hS hl
        refine lv_iinc (v := (v2_60 + 1)) (lv' := [(2, .int (v2_60 + 1)), (0, .ref (ad b1)), (1, .int v1_60)]) hx hb dX5_dockReadyBicycles_60 hl (k := 2) rfl rfl (Nat.le_of_ble_eq_true rfl) rfl (fun ls hl => ?_)
        refine lv_goto (tgt := 4) hx hb dX5_dockReadyBicycles_63 (by decide) ?_
        exact hI4 S1_60h v1_60 (v2_60 + 1) H _ ls hR hP hD hS (lv_sub hl [1, 2, 0] rfl)
      intro S1_4h v1_4 v2_4 H locs ls hR hP hD hS hl
      rw [fX5_dockReadyBicycles_4] at hR
      refine lv_iload_n hx hb dX5_dockReadyBicycles_4 rfl (lv_at hl 2 rfl) ?_
      refine lv_aload_n hx hb dX5_dockReadyBicycles_5 rfl (lv_at hl 0 rfl) ?_
      refine va_get (D := (dC, dI)) (ci := 4) (v := .ref (ad (b1 + 6))) (C := RX5) (T := TX5) (N := 6) hx hb hts hinX5 hown hK hP 0 rfl rfl 1 (by decide) hF21 (fun _ h9 => h9) rfl dX5_dockReadyBicycles_6 ?_
      refine va_get (D := (dC, dI)) (ci := 0) (v := .int (S1_4h 1 6 0)) (C := RX1) (T := TX1) (N := 7) hx hb hts hinX1 hown hK hP 6 rfl rfl 0 (by decide) hF204 (fun _ h9 => h9) rfl dX5_dockReadyBicycles_9 ?_
      refine lv_icmp_ge (tgt := 66) hx hb dX5_dockReadyBicycles_12 (by decide) (fun c12 => ?_) (fun c12 => ?_)
      · replace hR := it_t hR c12
        refine lv_iload_n hx hb dX5_dockReadyBicycles_66 rfl (lv_at hl 1 rfl) ?_
        replace hR := Option.some.inj hR
        obtain ⟨e9, hR⟩ := Prod.mk.inj hR
        have eu1 := hR
        replace hP : va_P (dC, dI) vwCl (fl [(w_X5 ad (b1) cs u1)]) H := by rw [← eu1]; exact hP
        replace hD : va_D A (fl [(w_X5 ad (b1) cs u1)]) := by rw [← eu1]; exact hD
        exact W.iret hx hb hr (fun t ht hW => ⟨⟨_, (), rfl, e9, by rw [ht]; exact hP, va_K.moved hW.alike hK, hD⟩, hS.F ht⟩) hS.2.2 dX5_dockReadyBicycles_67
      · replace hR := it_f hR c12
        refine lv_aload_n hx hb dX5_dockReadyBicycles_15 rfl (lv_at hl 0 rfl) ?_
        refine va_get (D := (dC, dI)) (ci := 4) (v := .ref (ad (b1 + 6))) (C := RX5) (T := TX5) (N := 6) hx hb hts hinX5 hown hK hP 0 rfl rfl 1 (by decide) hF21 (fun _ h9 => h9) rfl dX5_dockReadyBicycles_16 ?_
        refine lv_iload_n hx hb dX5_dockReadyBicycles_19 rfl (lv_at hl 2 rfl) ?_
        refine lv_aload_n hx hb dX5_dockReadyBicycles_20 rfl (lv_at hl 0 rfl) ?_
        refine va_get (D := (dC, dI)) (ci := 4) (v := .int (S1_4h 4 1 0)) (C := RX5) (T := TX5) (N := 6) hx hb hts hinX5 hown hK hP 0 rfl rfl 5 (by decide) hF62 (fun _ h9 => h9) rfl dX5_dockReadyBicycles_21 ?_
        replace hR := bd_e hR
        obtain ⟨q24, gq24, hR⟩ := hR
        replace hP : va_P (dC, dI) vwCl (fl [[((ad b1), .inr (4, [.ref (ad (b1 + 1)), .ref (ad (b1 + 6)), .ref (ad (b1 + 13)), .ref (ad (b1 + 23)), .ref (ad (b1 + 27)), .int (S1_4h 4 1 0)]))], (w_X6 ad (b1 + 1) cs (S1_4h 0)), (w_X1 ad (b1 + 6) cs (S1_4h 1)), (w_X4 ad (b1 + 13) cs (S1_4h 2)), (w_X8 ad (b1 + 23) cs (S1_4h 3)), [((ad (b1 + 27)), .inl (cs 0, 3, .inl (S1_4h 4 0)))]]) H := hP
        replace hD : va_D A (fl [[((ad b1), .inr (4, [.ref (ad (b1 + 1)), .ref (ad (b1 + 6)), .ref (ad (b1 + 13)), .ref (ad (b1 + 23)), .ref (ad (b1 + 27)), .int (S1_4h 4 1 0)]))], (w_X6 ad (b1 + 1) cs (S1_4h 0)), (w_X1 ad (b1 + 6) cs (S1_4h 1)), (w_X4 ad (b1 + 13) cs (S1_4h 2)), (w_X8 ad (b1 + 23) cs (S1_4h 3)), [((ad (b1 + 27)), .inl (cs 0, 3, .inl (S1_4h 4 0)))]]) := hD
        refine cl_Vi (As := [.int v2_4, .int (S1_4h 4 1 0)]) (rest := []) (L := [[((ad b1), .inr (4, [.ref (ad (b1 + 1)), .ref (ad (b1 + 6)), .ref (ad (b1 + 13)), .ref (ad (b1 + 23)), .ref (ad (b1 + 27)), .int (S1_4h 4 1 0)]))], (w_X6 ad (b1 + 1) cs (S1_4h 0)), (w_X1 ad (b1 + 6) cs (S1_4h 1)), (w_X4 ad (b1 + 13) cs (S1_4h 2)), (w_X8 ad (b1 + 23) cs (S1_4h 3)), [((ad (b1 + 27)), .inl (cs 0, 3, .inl (S1_4h 4 0)))]]) (L' := [[((ad b1), .inr (4, [.ref (ad (b1 + 1)), .ref (ad (b1 + 6)), .ref (ad (b1 + 13)), .ref (ad (b1 + 23)), .ref (ad (b1 + 27)), .int (S1_4h 4 1 0)]))], (w_X6 ad (b1 + 1) cs (S1_4h 0)), (w_X1 ad (b1 + 6) cs (S1_4h 1)), (w_X4 ad (b1 + 13) cs (S1_4h 2)), (w_X8 ad (b1 + 23) cs (S1_4h 3)), [((ad (b1 + 27)), .inl (cs 0, 3, .inl (S1_4h 4 0)))]]) (Wc := [(w_X1 ad (b1 + 6) cs (S1_4h 1))]) (Wc' := [(w_X1 ad (b1 + 6) cs (S1_4h 1))]) (is := [2]) (js := [0, 1, 3, 4, 5]) ⟨hx, hb, hml, hown, hts⟩ (k_X1_isReady l dC dI cs ad (b1 + 6) H.size (S1_4h 1) v2_4 (S1_4h 4 1 0) q24 gq24) (cwV 2 hts gX5_dockReadyBicycles_X1_isReady rfl rfl rfl cd_X1_isReady ⟨Nat.le_of_ble_eq_true rfl, Nat.le_of_ble_eq_true rfl⟩) hK hP hD hS hA ⟨rfl, rfl, rfl, rfl, rfl, rfl⟩ (jn_nd (is := [2]) hD rfl rfl) 6 0 rfl rfl rfl rfl rfl hl.1 (Nat.le_of_ble_eq_true rfl) dX5_dockReadyBicycles_24 (fun H24 locs24 hP' hD' hS' => ?_)
        replace hS := hS'
        replace hP : va_P (dC, dI) vwCl (fl [(w_X5 ad (b1) cs S1_4h)]) H24 := hP'
        replace hD : va_D A (fl [(w_X5 ad (b1) cs S1_4h)]) := hD'
        clear hP' hD' hS'
        refine lv_if_eq (tgt := 60) hx hb dX5_dockReadyBicycles_27 (by decide) (fun c27 => ?_) (fun c27 => ?_)
        · replace hR := it_t hR c27
          exact hB60 S1_4h v1_4 v2_4 H24 _ ls hR hP hD hS (lv_sub hl [0, 1, 2] rfl)
        · replace hR := it_f hR c27
          refine lv_aload_n hx hb dX5_dockReadyBicycles_30 rfl (lv_at hl 0 rfl) ?_
          refine va_get (D := (dC, dI)) (ci := 4) (v := .ref (ad (b1 + 6))) (C := RX5) (T := TX5) (N := 6) hx hb hts hinX5 hown hK hP 0 rfl rfl 1 (by decide) hF21 (fun _ h9 => h9) rfl dX5_dockReadyBicycles_31 ?_
          refine lv_iload_n hx hb dX5_dockReadyBicycles_34 rfl (lv_at hl 2 rfl) ?_
          replace hR := bd_e hR
          obtain ⟨q35, gq35, hR⟩ := hR
          replace hP : va_P (dC, dI) vwCl (fl [[((ad b1), .inr (4, [.ref (ad (b1 + 1)), .ref (ad (b1 + 6)), .ref (ad (b1 + 13)), .ref (ad (b1 + 23)), .ref (ad (b1 + 27)), .int (S1_4h 4 1 0)]))], (w_X6 ad (b1 + 1) cs (S1_4h 0)), (w_X1 ad (b1 + 6) cs (S1_4h 1)), (w_X4 ad (b1 + 13) cs (S1_4h 2)), (w_X8 ad (b1 + 23) cs (S1_4h 3)), [((ad (b1 + 27)), .inl (cs 0, 3, .inl (S1_4h 4 0)))]]) H24 := hP
          replace hD : va_D A (fl [[((ad b1), .inr (4, [.ref (ad (b1 + 1)), .ref (ad (b1 + 6)), .ref (ad (b1 + 13)), .ref (ad (b1 + 23)), .ref (ad (b1 + 27)), .int (S1_4h 4 1 0)]))], (w_X6 ad (b1 + 1) cs (S1_4h 0)), (w_X1 ad (b1 + 6) cs (S1_4h 1)), (w_X4 ad (b1 + 13) cs (S1_4h 2)), (w_X8 ad (b1 + 23) cs (S1_4h 3)), [((ad (b1 + 27)), .inl (cs 0, 3, .inl (S1_4h 4 0)))]]) := hD
          refine cl_Vv (As := [.int v2_4]) (rest := []) (L := [[((ad b1), .inr (4, [.ref (ad (b1 + 1)), .ref (ad (b1 + 6)), .ref (ad (b1 + 13)), .ref (ad (b1 + 23)), .ref (ad (b1 + 27)), .int (S1_4h 4 1 0)]))], (w_X6 ad (b1 + 1) cs (S1_4h 0)), (w_X1 ad (b1 + 6) cs (S1_4h 1)), (w_X4 ad (b1 + 13) cs (S1_4h 2)), (w_X8 ad (b1 + 23) cs (S1_4h 3)), [((ad (b1 + 27)), .inl (cs 0, 3, .inl (S1_4h 4 0)))]]) (L' := [[((ad b1), .inr (4, [.ref (ad (b1 + 1)), .ref (ad (b1 + 6)), .ref (ad (b1 + 13)), .ref (ad (b1 + 23)), .ref (ad (b1 + 27)), .int ((sU S1_4h 1 q35) 4 1 0)]))], (w_X6 ad (b1 + 1) cs ((sU S1_4h 1 q35) 0)), (w_X1 ad (b1 + 6) cs ((sU S1_4h 1 q35) 1)), (w_X4 ad (b1 + 13) cs ((sU S1_4h 1 q35) 2)), (w_X8 ad (b1 + 23) cs ((sU S1_4h 1 q35) 3)), [((ad (b1 + 27)), .inl (cs 0, 3, .inl ((sU S1_4h 1 q35) 4 0)))]]) (Wc := [(w_X1 ad (b1 + 6) cs (S1_4h 1))]) (Wc' := [(w_X1 ad (b1 + 6) cs q35)]) (is := [2]) (js := [0, 1, 3, 4, 5]) ⟨hx, hb, hml, hown, hts⟩ (k_X1_renew l dC dI cs ad (b1 + 6) H24.size (S1_4h 1) v2_4 q35 gq35) (cwV 1 hts gX5_dockReadyBicycles_X1_renew rfl rfl rfl cd_X1_renew ⟨Nat.le_of_ble_eq_true rfl, Nat.le_of_ble_eq_true rfl⟩) hK hP hD hS hA ⟨rfl, rfl, rfl, rfl, rfl, rfl⟩ (jn_nd (is := [2]) hD rfl rfl) 6 0 rfl rfl rfl rfl rfl hl.1 (Nat.le_of_ble_eq_true rfl) dX5_dockReadyBicycles_35 (fun H35 locs35 hP' hD' hS' => ?_)
          replace hS := hS'
          have hP' : va_P (dC, dI) vwCl (fl [(w_X5 ad (b1) cs (sU S1_4h 1 q35))]) H35 := hP'
          have hD' : va_D A (fl [(w_X5 ad (b1) cs (sU S1_4h 1 q35))]) := hD'
          replace hR := bn_e hR
          obtain ⟨S1_35, eS1_35, hR⟩ := hR
          replace hP : va_P (dC, dI) vwCl (fl [(w_X5 ad (b1) cs S1_35)]) H35 := by rw [eS1_35]; exact hP'
          replace hD : va_D A (fl [(w_X5 ad (b1) cs S1_35)]) := by rw [eS1_35]; exact hD'
          clear hP' hD' hS'
          refine lv_aload_n hx hb dX5_dockReadyBicycles_38 rfl (lv_at hl 0 rfl) ?_
          replace hR := bd_e hR
          obtain ⟨q39, gq39, hR⟩ := hR
          refine cl_Vi (As := []) (rest := []) (L := [(w_X5 ad (b1) cs S1_35)]) (L' := [(w_X5 ad (b1) cs S1_35)]) (Wc := [(w_X5 ad (b1) cs S1_35)]) (Wc' := [(w_X5 ad (b1) cs S1_35)]) (is := [0]) (js := []) ⟨hx, hb, hml, hown, hts⟩ (k_X5_firstWithFreeDock l dC dI cs ad (b1) H35.size S1_35 q39 gq39) (cwV 0 hts gX5_dockReadyBicycles_X5_firstWithFreeDock rfl rfl rfl cd_X5_firstWithFreeDock ⟨Nat.le_of_ble_eq_true rfl, Nat.le_of_ble_eq_true rfl⟩) hK hP hD hS hA ⟨rfl, rfl, rfl, rfl, rfl, rfl⟩ (jn_nd (is := [0]) hD rfl rfl) 0 4 rfl rfl rfl rfl rfl hl.1 (Nat.le_of_ble_eq_true rfl) dX5_dockReadyBicycles_39 (fun H39 locs39 hP' hD' hS' => ?_)
          replace hS := hS'
          replace hP : va_P (dC, dI) vwCl (fl [(w_X5 ad (b1) cs S1_35)]) H39 := hP'
          replace hD : va_D A (fl [(w_X5 ad (b1) cs S1_35)]) := hD'
          clear hP' hD' hS'
          refine lv_istore_n (lv' := [(3, .int q39), (0, .ref (ad b1)), (1, .int v1_4), (2, .int v2_4)]) hx hb dX5_dockReadyBicycles_42 rfl hl (Nat.le_of_ble_eq_true rfl) rfl (fun ls hl => ?_)
          refine lv_iload_n hx hb dX5_dockReadyBicycles_43 rfl (lv_at hl 0 rfl) ?_
          refine lv_if_lt (tgt := 60) hx hb dX5_dockReadyBicycles_44 (by decide) (fun c44 => ?_) (fun c44 => ?_)
          · replace hR := it_t hR c44
            exact hB60 S1_35 v1_4 v2_4 H39 _ ls hR hP hD hS (lv_sub hl [1, 2, 3] rfl)
          · replace hR := it_f hR c44
            refine lv_aload_n hx hb dX5_dockReadyBicycles_47 rfl (lv_at hl 1 rfl) ?_
            refine va_get (D := (dC, dI)) (ci := 4) (v := .ref (ad (b1 + 6))) (C := RX5) (T := TX5) (N := 6) hx hb hts hinX5 hown hK hP 0 rfl rfl 1 (by decide) hF21 (fun _ h9 => h9) rfl dX5_dockReadyBicycles_48 ?_
            refine lv_iload_n hx hb dX5_dockReadyBicycles_51 rfl (lv_at hl 3 rfl) ?_
            refine lv_iconst (v := 0) hx hb dX5_dockReadyBicycles_52 ic_0 ?_
            refine lv_iload_n hx hb dX5_dockReadyBicycles_53 rfl (lv_at hl 0 rfl) ?_
            replace hR := bd_e hR
            obtain ⟨q54, gq54, hR⟩ := hR
            replace hP : va_P (dC, dI) vwCl (fl [[((ad b1), .inr (4, [.ref (ad (b1 + 1)), .ref (ad (b1 + 6)), .ref (ad (b1 + 13)), .ref (ad (b1 + 23)), .ref (ad (b1 + 27)), .int (S1_35 4 1 0)]))], (w_X6 ad (b1 + 1) cs (S1_35 0)), (w_X1 ad (b1 + 6) cs (S1_35 1)), (w_X4 ad (b1 + 13) cs (S1_35 2)), (w_X8 ad (b1 + 23) cs (S1_35 3)), [((ad (b1 + 27)), .inl (cs 0, 3, .inl (S1_35 4 0)))]]) H39 := hP
            replace hD : va_D A (fl [[((ad b1), .inr (4, [.ref (ad (b1 + 1)), .ref (ad (b1 + 6)), .ref (ad (b1 + 13)), .ref (ad (b1 + 23)), .ref (ad (b1 + 27)), .int (S1_35 4 1 0)]))], (w_X6 ad (b1 + 1) cs (S1_35 0)), (w_X1 ad (b1 + 6) cs (S1_35 1)), (w_X4 ad (b1 + 13) cs (S1_35 2)), (w_X8 ad (b1 + 23) cs (S1_35 3)), [((ad (b1 + 27)), .inl (cs 0, 3, .inl (S1_35 4 0)))]]) := hD
            refine cl_Vv (As := [.int v2_4, .int (0 : Int32), .int q39]) (rest := []) (L := [[((ad b1), .inr (4, [.ref (ad (b1 + 1)), .ref (ad (b1 + 6)), .ref (ad (b1 + 13)), .ref (ad (b1 + 23)), .ref (ad (b1 + 27)), .int (S1_35 4 1 0)]))], (w_X6 ad (b1 + 1) cs (S1_35 0)), (w_X1 ad (b1 + 6) cs (S1_35 1)), (w_X4 ad (b1 + 13) cs (S1_35 2)), (w_X8 ad (b1 + 23) cs (S1_35 3)), [((ad (b1 + 27)), .inl (cs 0, 3, .inl (S1_35 4 0)))]]) (L' := [[((ad b1), .inr (4, [.ref (ad (b1 + 1)), .ref (ad (b1 + 6)), .ref (ad (b1 + 13)), .ref (ad (b1 + 23)), .ref (ad (b1 + 27)), .int ((sU S1_35 1 q54) 4 1 0)]))], (w_X6 ad (b1 + 1) cs ((sU S1_35 1 q54) 0)), (w_X1 ad (b1 + 6) cs ((sU S1_35 1 q54) 1)), (w_X4 ad (b1 + 13) cs ((sU S1_35 1 q54) 2)), (w_X8 ad (b1 + 23) cs ((sU S1_35 1 q54) 3)), [((ad (b1 + 27)), .inl (cs 0, 3, .inl ((sU S1_35 1 q54) 4 0)))]]) (Wc := [(w_X1 ad (b1 + 6) cs (S1_35 1))]) (Wc' := [(w_X1 ad (b1 + 6) cs q54)]) (is := [2]) (js := [0, 1, 3, 4, 5]) ⟨hx, hb, hml, hown, hts⟩ (k_X1_bring l dC dI cs ad (b1 + 6) H39.size (S1_35 1) v2_4 (0 : Int32) q39 q54 gq54) (cwV 3 hts gX5_dockReadyBicycles_X1_bring rfl rfl rfl cd_X1_bring ⟨Nat.le_of_ble_eq_true rfl, Nat.le_of_ble_eq_true rfl⟩) hK hP hD hS hA ⟨rfl, rfl, rfl, rfl, rfl, rfl⟩ (jn_nd (is := [2]) hD rfl rfl) 6 0 rfl rfl rfl rfl rfl hl.1 (Nat.le_of_ble_eq_true rfl) dX5_dockReadyBicycles_54 (fun H54 locs54 hP' hD' hS' => ?_)
            replace hS := hS'
            have hP' : va_P (dC, dI) vwCl (fl [(w_X5 ad (b1) cs (sU S1_35 1 q54))]) H54 := hP'
            have hD' : va_D A (fl [(w_X5 ad (b1) cs (sU S1_35 1 q54))]) := hD'
            replace hR := bn_e hR
            obtain ⟨S1_54, eS1_54, hR⟩ := hR
            replace hP : va_P (dC, dI) vwCl (fl [(w_X5 ad (b1) cs S1_54)]) H54 := by rw [eS1_54]; exact hP'
            replace hD : va_D A (fl [(w_X5 ad (b1) cs S1_54)]) := by rw [eS1_54]; exact hD'
            clear hP' hD' hS'
            refine lv_iinc (v := (v1_4 + 1)) (lv' := [(1, .int (v1_4 + 1)), (3, .int q39), (0, .ref (ad b1)), (2, .int v2_4)]) hx hb dX5_dockReadyBicycles_57 hl (k := 2) rfl rfl (Nat.le_of_ble_eq_true rfl) rfl (fun ls hl => ?_)
            exact hB60 S1_54 (v1_4 + 1) v2_4 H54 _ ls hR hP hD hS (lv_sub hl [2, 0, 3] rfl)
  refine lv_iconst (v := 0) hx hb dX5_dockReadyBicycles_0 ic_0 ?_
  refine lv_istore_n (lv' := [(1, .int (0 : Int32)), (0, .ref (ad b1))]) hx hb dX5_dockReadyBicycles_1 rfl hl (Nat.le_of_ble_eq_true rfl) rfl (fun ls hl => ?_)
  refine lv_iconst (v := 0) hx hb dX5_dockReadyBicycles_2 ic_0 ?_
  refine lv_istore_n (lv' := [(2, .int (0 : Int32)), (1, .int (0 : Int32)), (0, .ref (ad b1))]) hx hb dX5_dockReadyBicycles_3 rfl hl (Nat.le_of_ble_eq_true rfl) rfl (fun ls hl => ?_)
  exact hB4 fuel S1 (0 : Int32) (0 : Int32) s.heap _ ls hR hP hD hS (lv_sub hl [2, 1, 0] rfl)
set_option maxHeartbeats 8000000 in
set_option maxRecDepth 100000 in
theorem k_X5_letGoBy (l : Launch) (dC : Nat → ClassId) (dI : Nat → Nat → Nat) (cs : Nat → ClassId) (ad : Nat → Nat) (b1 : Nat) (sz : Nat) (S1 : T3) (p1 : Int32) (r : Int32) (u1 : T3) (hR : fX5_letGoBy S1 p1 = some (r, u1)) : Met l yX5_letGoBy wsX5_letGoBy ({ frames := 3, cells := 0, slots := 0, locals := 68 } : Room) (va_Pc [.ref (ad b1), .int p1] (pW dC dI (tyL cs) (fl [(w_X5 ad (b1) cs S1)]) sz)) (QI dC dI (tyL cs) (va_A (fl [(w_X5 ad (b1) cs S1)]) sz) (fl [(w_X5 ad (b1) cs u1)]) r) 0 0 (va_A (fl [(w_X5 ad (b1) cs S1)]) sz) := by
  refine mt_of (own := RX5) (cc := cX5_letGoBy) (maxL := 4) (ret := (some .int)) (Qc := fun A => QI dC dI (tyL cs) A (fl [(w_X5 ad (b1) cs u1)]) r) rfl (by decide) rfl (Nat.le_of_ble_eq_true rfl) (fun p e s m below meth c A ls hsz hx hb hr hts hown hlocks hml hA hK hP hD hS hl => ?_)
  subst hsz
  have hl : lv_has ls 4 [(0, .ref (ad b1)), (1, .int p1)] := hl
  have hF62 := hts (.fieldLink RX5 62 "DockedBikes$Road" "time" "I") (List.mem_of_getElem? (i := 1) rfl)
  have hinX5 : ∀ w ∈ wsX50, w ∈ wsX5_letGoBy := by decide +kernel
  have hB33 : ∀ (n33 : Nat), ∀ (S1_33h : T3) (v2_33 : Int32) (v3_33 : Int32) (H : Heap) (locs : List Loc) (ls : Array Slot), fX5_letGoBy_33 p1 n33 S1_33h v2_33 v3_33 = some (r, u1) → va_P (dC, dI) vwCl (fl [(w_X5 ad (b1) cs S1_33h)]) H → va_D A (fl [(w_X5 ad (b1) cs S1_33h)]) → va_S A s.heap H locs → lv_has ls 4 [(0, .ref (ad b1)), (1, .int p1), (2, .int v2_33), (3, .int v3_33)] → W p l e (headSpec wsX5_letGoBy ({ frames := 3, cells := 0, slots := 0, locals := 68 } : Room)).room s m ([.ref (ad b1), .int p1] : List Value).toArray below meth c H locs 0 0 (MQ below (QI dC dI (tyL cs) A (fl [(w_X5 ad (b1) cs u1)]) r) ([.ref (ad b1), .int p1] : List Value).toArray s 0 0 A) (F0 m 33 ls []) := by
    intro n33
    induction n33 with
    | zero =>
      intro S1_33h v2_33 v3_33 H locs ls hR hP hD hS hl
      exact nn_e hR
    | succ n33 hI33 =>
      intro S1_33h v2_33 v3_33 H locs ls hR hP hD hS hl
      rw [fX5_letGoBy_33] at hR
      refine lv_iload_n hx hb dX5_letGoBy_33 rfl (lv_at hl 3 rfl) ?_
      refine lv_iload_n hx hb dX5_letGoBy_34 rfl (lv_at hl 1 rfl) ?_
      refine lv_icmp_ge (tgt := 61) hx hb dX5_letGoBy_35 (by decide) (fun c35 => ?_) (fun c35 => ?_)
      · replace hR := it_t hR c35
        refine lv_iload_n hx hb dX5_letGoBy_61 rfl (lv_at hl 2 rfl) ?_
        replace hR := Option.some.inj hR
        obtain ⟨e9, hR⟩ := Prod.mk.inj hR
        have eu1 := hR
        replace hP : va_P (dC, dI) vwCl (fl [(w_X5 ad (b1) cs u1)]) H := by rw [← eu1]; exact hP
        replace hD : va_D A (fl [(w_X5 ad (b1) cs u1)]) := by rw [← eu1]; exact hD
        exact W.iret hx hb hr (fun t ht hW => ⟨⟨_, (), rfl, e9, by rw [ht]; exact hP, va_K.moved hW.alike hK, hD⟩, hS.F ht⟩) hS.2.2 dX5_letGoBy_62
      · replace hR := it_f hR c35
        refine lv_aload_n hx hb dX5_letGoBy_38 rfl (lv_at hl 0 rfl) ?_
        refine lv_dup hx hb dX5_letGoBy_39 rfl ?_
        refine va_get (D := (dC, dI)) (ci := 4) (v := .int (S1_33h 4 1 0)) (C := RX5) (T := TX5) (N := 6) hx hb hts hinX5 hown hK hP 0 rfl rfl 5 (by decide) hF62 (fun _ h9 => h9) rfl dX5_letGoBy_40 ?_
        refine lv_iconst (v := 1) hx hb dX5_letGoBy_43 ic_1 ?_
        refine lv_iadd hx hb dX5_letGoBy_44 ?_
        refine va_put (D := (dC, dI)) (ci := 4) (v := .int ((S1_33h 4 1 0) + 1)) (ty := .int) (C := RX5) (T := TX5) (N := 6) hx hb hts hinX5 tyX5 tyX5_ok nmX5 hown hK hP hD hS 0 rfl rfl 5 (by decide) hF62 (fun _ h9 => h9) rfl (by decide +kernel) rfl rfl (Nat.le_of_ble_eq_true rfl) dX5_letGoBy_45 (fun H45 locs45 hP' hD' hS' => ?_)
        replace hS := hS'
        have hP' : va_P (dC, dI) vwCl (fl [(w_X5 ad (b1) cs (sU S1_33h 4 (sU (S1_33h 4) 1 (sU ((S1_33h 4) 1) 0 ((S1_33h 4 1 0) + 1)))))]) H45 := hP'
        have hD' : va_D A (fl [(w_X5 ad (b1) cs (sU S1_33h 4 (sU (S1_33h 4) 1 (sU ((S1_33h 4) 1) 0 ((S1_33h 4 1 0) + 1)))))]) := hD'
        replace hR := bn_e hR
        obtain ⟨S1_45, eS1_45, hR⟩ := hR
        replace hP : va_P (dC, dI) vwCl (fl [(w_X5 ad (b1) cs S1_45)]) H45 := by rw [eS1_45]; exact hP'
        replace hD : va_D A (fl [(w_X5 ad (b1) cs S1_45)]) := by rw [eS1_45]; exact hD'
        clear hP' hD' hS'
        refine lv_iload_n hx hb dX5_letGoBy_48 rfl (lv_at hl 2 rfl) ?_
        refine lv_aload_n hx hb dX5_letGoBy_49 rfl (lv_at hl 0 rfl) ?_
        replace hR := bd_e hR
        obtain ⟨q50, gq50, hR⟩ := hR
        refine cl_Vi (As := []) (rest := [.int v2_33]) (L := [(w_X5 ad (b1) cs S1_45)]) (L' := [(w_X5 ad (b1) cs q50.2)]) (Wc := [(w_X5 ad (b1) cs S1_45)]) (Wc' := [(w_X5 ad (b1) cs q50.2)]) (is := [0]) (js := []) ⟨hx, hb, hml, hown, hts⟩ (k_X5_dockReadyBicycles l dC dI cs ad (b1) H45.size S1_45 q50.1 q50.2 gq50) (cwV 0 hts gX5_letGoBy_X5_dockReadyBicycles rfl rfl rfl cd_X5_dockReadyBicycles ⟨Nat.le_of_ble_eq_true rfl, Nat.le_of_ble_eq_true rfl⟩) hK hP hD hS hA ⟨rfl, rfl, rfl, rfl, rfl, rfl⟩ (jn_nd (is := [0]) hD rfl rfl) 0 4 rfl rfl rfl rfl rfl hl.1 (Nat.le_of_ble_eq_true rfl) dX5_letGoBy_50 (fun H50 locs50 hP' hD' hS' => ?_)
        replace hS := hS'
        replace hP : va_P (dC, dI) vwCl (fl [(w_X5 ad (b1) cs q50.2)]) H50 := hP'
        replace hD : va_D A (fl [(w_X5 ad (b1) cs q50.2)]) := hD'
        clear hP' hD' hS'
        refine lv_iadd hx hb dX5_letGoBy_53 ?_
        refine lv_istore_n (lv' := [(2, .int (v2_33 + q50.1)), (0, .ref (ad b1)), (1, .int p1), (3, .int v3_33)]) hx hb dX5_letGoBy_54 rfl hl (Nat.le_of_ble_eq_true rfl) rfl (fun ls hl => ?_)
        refine lv_iinc (v := (v3_33 + 1)) (lv' := [(3, .int (v3_33 + 1)), (2, .int (v2_33 + q50.1)), (0, .ref (ad b1)), (1, .int p1)]) hx hb dX5_letGoBy_55 hl (k := 3) rfl rfl (Nat.le_of_ble_eq_true rfl) rfl (fun ls hl => ?_)
        refine lv_goto (tgt := 33) hx hb dX5_letGoBy_58 (by decide) ?_
        exact hI33 q50.2 (v2_33 + q50.1) (v3_33 + 1) H50 _ ls hR hP hD hS (lv_sub hl [2, 3, 1, 0] rfl)
  refine lv_iload_n hx hb dX5_letGoBy_0 rfl (lv_at hl 1 rfl) ?_
  refine lv_iconst (v := 1) hx hb dX5_letGoBy_1 ic_1 ?_
  refine lv_icmp_lt (tgt := 12) hx hb dX5_letGoBy_2 (by decide) (fun c2 => ?_) (fun c2 => ?_)
  · replace hR := it_t hR c2
    refine lv_iconst (v := (-1)) hx hb dX5_letGoBy_12 ic_m1 ?_
    replace hR := Option.some.inj hR
    obtain ⟨e9, hR⟩ := Prod.mk.inj hR
    have eu1 := hR
    replace hP : va_P (dC, dI) vwCl (fl [(w_X5 ad (b1) cs u1)]) s.heap := by rw [← eu1]; exact hP
    replace hD : va_D A (fl [(w_X5 ad (b1) cs u1)]) := by rw [← eu1]; exact hD
    exact W.iret hx hb hr (fun t ht hW => ⟨⟨_, (), rfl, e9, by rw [ht]; exact hP, va_K.moved hW.alike hK, hD⟩, hS.F ht⟩) hS.2.2 dX5_letGoBy_13
  · replace hR := it_f hR c2
    refine lv_iload_n hx hb dX5_letGoBy_5 rfl (lv_at hl 1 rfl) ?_
    refine lv_sipush (v := 200) hx hb dX5_letGoBy_6 sp_200 ?_
    refine lv_icmp_le (tgt := 14) hx hb dX5_letGoBy_9 (by decide) (fun c9 => ?_) (fun c9 => ?_)
    · replace hR := it_t hR c9
      refine lv_aload_n hx hb dX5_letGoBy_14 rfl (lv_at hl 0 rfl) ?_
      refine va_get (D := (dC, dI)) (ci := 4) (v := .int (S1 4 1 0)) (C := RX5) (T := TX5) (N := 6) hx hb hts hinX5 hown hK hP 0 rfl rfl 5 (by decide) hF62 (fun _ h9 => h9) rfl dX5_letGoBy_15 ?_
      refine lv_iload_n hx hb dX5_letGoBy_18 rfl (lv_at hl 1 rfl) ?_
      refine lv_iadd hx hb dX5_letGoBy_19 ?_
      refine lv_sipush (v := 9000) hx hb dX5_letGoBy_20 sp_9000 ?_
      refine lv_icmp_le (tgt := 29) hx hb dX5_letGoBy_23 (by decide) (fun c23 => ?_) (fun c23 => ?_)
      · replace hR := it_t hR c23
        refine lv_iconst (v := 0) hx hb dX5_letGoBy_29 ic_0 ?_
        refine lv_istore_n (lv' := [(2, .int (0 : Int32)), (0, .ref (ad b1)), (1, .int p1)]) hx hb dX5_letGoBy_30 rfl hl (Nat.le_of_ble_eq_true rfl) rfl (fun ls hl => ?_)
        refine lv_iconst (v := 0) hx hb dX5_letGoBy_31 ic_0 ?_
        refine lv_istore_n (lv' := [(3, .int (0 : Int32)), (2, .int (0 : Int32)), (0, .ref (ad b1)), (1, .int p1)]) hx hb dX5_letGoBy_32 rfl hl (Nat.le_of_ble_eq_true rfl) rfl (fun ls hl => ?_)
        exact hB33 fuel S1 (0 : Int32) (0 : Int32) s.heap _ ls hR hP hD hS (lv_sub hl [2, 3, 1, 0] rfl)
      · replace hR := it_f hR c23
        refine lv_bipush (v := (-3)) hx hb dX5_letGoBy_26 bp_m3 ?_
        replace hR := Option.some.inj hR
        obtain ⟨e9, hR⟩ := Prod.mk.inj hR
        have eu1 := hR
        replace hP : va_P (dC, dI) vwCl (fl [(w_X5 ad (b1) cs u1)]) s.heap := by rw [← eu1]; exact hP
        replace hD : va_D A (fl [(w_X5 ad (b1) cs u1)]) := by rw [← eu1]; exact hD
        exact W.iret hx hb hr (fun t ht hW => ⟨⟨_, (), rfl, e9, by rw [ht]; exact hP, va_K.moved hW.alike hK, hD⟩, hS.F ht⟩) hS.2.2 dX5_letGoBy_28
    · replace hR := it_f hR c9
      refine lv_iconst (v := (-1)) hx hb dX5_letGoBy_12 ic_m1 ?_
      replace hR := Option.some.inj hR
      obtain ⟨e9, hR⟩ := Prod.mk.inj hR
      have eu1 := hR
      replace hP : va_P (dC, dI) vwCl (fl [(w_X5 ad (b1) cs u1)]) s.heap := by rw [← eu1]; exact hP
      replace hD : va_D A (fl [(w_X5 ad (b1) cs u1)]) := by rw [← eu1]; exact hD
      exact W.iret hx hb hr (fun t ht hW => ⟨⟨_, (), rfl, e9, by rw [ht]; exact hP, va_K.moved hW.alike hK, hD⟩, hS.F ht⟩) hS.2.2 dX5_letGoBy_13
set_option maxHeartbeats 8000000 in
set_option maxRecDepth 100000 in
theorem k_X5_isSetting (l : Launch) (dC : Nat → ClassId) (dI : Nat → Nat → Nat) (cs : Nat → ClassId) (ad : Nat → Nat) (b1 : Nat) (sz : Nat) (S1 : T3) (p1 : Int32) (r : Int32) (hR : fX5_isSetting S1 p1 = some r) : Met l yX5_isSetting wsX5_isSetting ({ frames := 0, cells := 0, slots := 0, locals := 0 } : Room) (va_Pc [.ref (ad b1), .int p1] (pW dC dI (tyL cs) (fl [(w_X5 ad (b1) cs S1)]) sz)) (QI dC dI (tyL cs) (va_A (fl [(w_X5 ad (b1) cs S1)]) sz) (fl [(w_X5 ad (b1) cs S1)]) r) 0 0 (va_A (fl [(w_X5 ad (b1) cs S1)]) sz) := by
  refine mt_of (own := RX5) (cc := cX5_isSetting) (maxL := 2) (ret := (some .boolean)) (Qc := fun A => QI dC dI (tyL cs) A (fl [(w_X5 ad (b1) cs S1)]) r) rfl (by decide) rfl (Nat.le_of_ble_eq_true rfl) (fun p e s m below meth c A ls hsz hx hb hr hts hown hlocks hml hA hK hP hD hS hl => ?_)
  subst hsz
  have hl : lv_has ls 2 [(0, .ref (ad b1)), (1, .int p1)] := hl
  refine lv_iload_n hx hb dX5_isSetting_0 rfl (lv_at hl 1 rfl) ?_
  refine lv_if_lt (tgt := 13) hx hb dX5_isSetting_1 (by decide) (fun c1 => ?_) (fun c1 => ?_)
  · replace hR := it_t hR c1
    refine lv_iconst (v := 0) hx hb dX5_isSetting_13 ic_0 ?_
    replace hR := Option.some.inj hR
    have e9 := hR
    exact W.zret (ty := .boolean) hx hb hr (by decide) (fun t ht hW => ⟨⟨_, (), rfl, e9, by rw [ht]; exact hP, va_K.moved hW.alike hK, hD⟩, hS.F ht⟩) hS.2.2 dX5_isSetting_14
  · replace hR := it_f hR c1
    refine lv_iload_n hx hb dX5_isSetting_4 rfl (lv_at hl 1 rfl) ?_
    refine lv_iconst (v := 3) hx hb dX5_isSetting_5 ic_3 ?_
    refine lv_icmp_ge (tgt := 13) hx hb dX5_isSetting_6 (by decide) (fun c6 => ?_) (fun c6 => ?_)
    · replace hR := it_t hR c6
      refine lv_iconst (v := 0) hx hb dX5_isSetting_13 ic_0 ?_
      replace hR := Option.some.inj hR
      have e9 := hR
      exact W.zret (ty := .boolean) hx hb hr (by decide) (fun t ht hW => ⟨⟨_, (), rfl, e9, by rw [ht]; exact hP, va_K.moved hW.alike hK, hD⟩, hS.F ht⟩) hS.2.2 dX5_isSetting_14
    · replace hR := it_f hR c6
      refine lv_iconst (v := 1) hx hb dX5_isSetting_9 ic_1 ?_
      refine lv_goto (tgt := 14) hx hb dX5_isSetting_10 (by decide) ?_
      replace hR := Option.some.inj hR
      have e9 := hR
      exact W.zret (ty := .boolean) hx hb hr (by decide) (fun t ht hW => ⟨⟨_, (), rfl, e9, by rw [ht]; exact hP, va_K.moved hW.alike hK, hD⟩, hS.F ht⟩) hS.2.2 dX5_isSetting_14
set_option maxHeartbeats 8000000 in
set_option maxRecDepth 100000 in
theorem k_X5_changeSetting (l : Launch) (dC : Nat → ClassId) (dI : Nat → Nat → Nat) (cs : Nat → ClassId) (ad : Nat → Nat) (b1 : Nat) (sz : Nat) (S1 : T3) (p1 : Int32) (p2 : Int32) (r : Int32) (u1 : T3) (hR : fX5_changeSetting S1 p1 p2 = some (r, u1)) : Met l yX5_changeSetting wsX5_changeSetting ({ frames := 1, cells := 0, slots := 0, locals := 21 } : Room) (va_Pc [.ref (ad b1), .int p1, .int p2] (pW dC dI (tyL cs) (fl [(w_X5 ad (b1) cs S1)]) sz)) (QI dC dI (tyL cs) (va_A (fl [(w_X5 ad (b1) cs S1)]) sz) (fl [(w_X5 ad (b1) cs u1)]) r) 0 0 (va_A (fl [(w_X5 ad (b1) cs S1)]) sz) := by
  refine mt_of (own := RX5) (cc := cX5_changeSetting) (maxL := 6) (ret := (some .int)) (Qc := fun A => QI dC dI (tyL cs) A (fl [(w_X5 ad (b1) cs u1)]) r) rfl (by decide) rfl (Nat.le_of_ble_eq_true rfl) (fun p e s m below meth c A ls hsz hx hb hr hts hown hlocks hml hA hK hP hD hS hl => ?_)
  subst hsz
  have hl : lv_has ls 6 [(0, .ref (ad b1)), (1, .int p1), (2, .int p2)] := hl
  have hF39 := hts (.fieldLink RX5 39 "DockedBikes$Road" "settings" "[I") (List.mem_of_getElem? (i := 1) rfl)
  have hinX5 : ∀ w ∈ wsX50, w ∈ wsX5_changeSetting := by decide +kernel
  have hB33 : ∀ (S1_33h : T3) (v3_33 : Int32) (t0_33 : Int32) (H : Heap) (locs : List Loc) (ls : Array Slot), fX5_changeSetting_33 p1 p2 S1_33h v3_33 t0_33 = some (r, u1) → va_P (dC, dI) vwCl (fl [(w_X5 ad (b1) cs S1_33h)]) H → va_D A (fl [(w_X5 ad (b1) cs S1_33h)]) → va_S A s.heap H locs → lv_has ls 6 [(0, .ref (ad b1)), (1, .int p1), (2, .int p2), (3, .int v3_33)] → W p l e (headSpec wsX5_changeSetting ({ frames := 1, cells := 0, slots := 0, locals := 21 } : Room)).room s m ([.ref (ad b1), .int p1, .int p2] : List Value).toArray below meth c H locs 0 0 (MQ below (QI dC dI (tyL cs) A (fl [(w_X5 ad (b1) cs u1)]) r) ([.ref (ad b1), .int p1, .int p2] : List Value).toArray s 0 0 A) (F0 m 33 ls [.int t0_33]) := by
    intro S1_33h v3_33 t0_33 H locs ls hR hP hD hS hl
    refine lv_istore (lv' := [(4, .int t0_33), (0, .ref (ad b1)), (1, .int p1), (2, .int p2), (3, .int v3_33)]) hx hb dX5_changeSetting_33 hl (Nat.le_of_ble_eq_true rfl) rfl (fun ls hl => ?_)
    refine lv_iload_n hx hb dX5_changeSetting_35 rfl (lv_at hl 3 rfl) ?_
    refine lv_iload_n hx hb dX5_changeSetting_36 rfl (lv_at hl 4 rfl) ?_
    refine lv_icmp_lt (tgt := 46) hx hb dX5_changeSetting_37 (by decide) (fun c37 => ?_) (fun c37 => ?_)
    · replace hR := it_t hR c37
      refine lv_iconst (v := (-1)) hx hb dX5_changeSetting_46 ic_m1 ?_
      replace hR := Option.some.inj hR
      obtain ⟨e9, hR⟩ := Prod.mk.inj hR
      have eu1 := hR
      replace hP : va_P (dC, dI) vwCl (fl [(w_X5 ad (b1) cs u1)]) H := by rw [← eu1]; exact hP
      replace hD : va_D A (fl [(w_X5 ad (b1) cs u1)]) := by rw [← eu1]; exact hD
      exact W.iret hx hb hr (fun t ht hW => ⟨⟨_, (), rfl, e9, by rw [ht]; exact hP, va_K.moved hW.alike hK, hD⟩, hS.F ht⟩) hS.2.2 dX5_changeSetting_47
    · replace hR := it_f hR c37
      refine lv_iload_n hx hb dX5_changeSetting_40 rfl (lv_at hl 3 rfl) ?_
      refine lv_iload hx hb dX5_changeSetting_41 (lv_at hl 0 rfl) ?_
      refine lv_icmp_le (tgt := 48) hx hb dX5_changeSetting_43 (by decide) (fun c43 => ?_) (fun c43 => ?_)
      · replace hR := it_t hR c43
        refine lv_aload_n hx hb dX5_changeSetting_48 rfl (lv_at hl 1 rfl) ?_
        refine va_get (D := (dC, dI)) (ci := 4) (v := .ref (ad (b1 + 27))) (C := RX5) (T := TX5) (N := 6) hx hb hts hinX5 hown hK hP 0 rfl rfl 4 (by decide) hF39 (fun _ h9 => h9) rfl dX5_changeSetting_49 ?_
        refine lv_iload_n hx hb dX5_changeSetting_52 rfl (lv_at hl 2 rfl) ?_
        replace hR := gi_e hR
        obtain ⟨i53, hR⟩ := hR
        refine va_iald hx hb hK hP 27 0 rfl rfl i53 dX5_changeSetting_53 ?_
        refine lv_istore (lv' := [(5, .int (S1_33h 4 0 p1.toNatClampNeg)), (4, .int t0_33), (0, .ref (ad b1)), (1, .int p1), (2, .int p2), (3, .int v3_33)]) hx hb dX5_changeSetting_54 hl (Nat.le_of_ble_eq_true rfl) rfl (fun ls hl => ?_)
        refine lv_aload_n hx hb dX5_changeSetting_56 rfl (lv_at hl 2 rfl) ?_
        refine va_get (D := (dC, dI)) (ci := 4) (v := .ref (ad (b1 + 27))) (C := RX5) (T := TX5) (N := 6) hx hb hts hinX5 hown hK hP 0 rfl rfl 4 (by decide) hF39 (fun _ h9 => h9) rfl dX5_changeSetting_57 ?_
        refine lv_iload_n hx hb dX5_changeSetting_60 rfl (lv_at hl 3 rfl) ?_
        refine lv_iload_n hx hb dX5_changeSetting_61 rfl (lv_at hl 4 rfl) ?_
        replace hR := gi_e hR
        obtain ⟨i62, hR⟩ := hR
        refine va_iast hx hb hK hP hD hS 27 0 rfl rfl i62 dX5_changeSetting_62 (fun H62 locs62 hP' hD' hS' => ?_)
        replace hS := hS'
        have hP' : va_P (dC, dI) vwCl (fl [(w_X5 ad (b1) cs (sU S1_33h 4 (sU (S1_33h 4) 0 (sU (S1_33h 4 0) p1.toNatClampNeg p2))))]) H62 := hP'
        have hD' : va_D A (fl [(w_X5 ad (b1) cs (sU S1_33h 4 (sU (S1_33h 4) 0 (sU (S1_33h 4 0) p1.toNatClampNeg p2))))]) := hD'
        replace hR := bn_e hR
        obtain ⟨S1_62, eS1_62, hR⟩ := hR
        replace hP : va_P (dC, dI) vwCl (fl [(w_X5 ad (b1) cs S1_62)]) H62 := by rw [eS1_62]; exact hP'
        replace hD : va_D A (fl [(w_X5 ad (b1) cs S1_62)]) := by rw [eS1_62]; exact hD'
        clear hP' hD' hS'
        refine lv_iload hx hb dX5_changeSetting_63 (lv_at hl 0 rfl) ?_
        replace hR := Option.some.inj hR
        obtain ⟨e9, hR⟩ := Prod.mk.inj hR
        have eu1 := hR
        replace hP : va_P (dC, dI) vwCl (fl [(w_X5 ad (b1) cs u1)]) H62 := by rw [← eu1]; exact hP
        replace hD : va_D A (fl [(w_X5 ad (b1) cs u1)]) := by rw [← eu1]; exact hD
        exact W.iret hx hb hr (fun t ht hW => ⟨⟨_, (), rfl, e9, by rw [ht]; exact hP, va_K.moved hW.alike hK, hD⟩, hS.F ht⟩) hS.2.2 dX5_changeSetting_65
      · replace hR := it_f hR c43
        refine lv_iconst (v := (-1)) hx hb dX5_changeSetting_46 ic_m1 ?_
        replace hR := Option.some.inj hR
        obtain ⟨e9, hR⟩ := Prod.mk.inj hR
        have eu1 := hR
        replace hP : va_P (dC, dI) vwCl (fl [(w_X5 ad (b1) cs u1)]) H := by rw [← eu1]; exact hP
        replace hD : va_D A (fl [(w_X5 ad (b1) cs u1)]) := by rw [← eu1]; exact hD
        exact W.iret hx hb hr (fun t ht hW => ⟨⟨_, (), rfl, e9, by rw [ht]; exact hP, va_K.moved hW.alike hK, hD⟩, hS.F ht⟩) hS.2.2 dX5_changeSetting_47
  have hB20 : ∀ (S1_20h : T3) (t0_20 : Int32) (H : Heap) (locs : List Loc) (ls : Array Slot), fX5_changeSetting_20 p1 p2 S1_20h t0_20 = some (r, u1) → va_P (dC, dI) vwCl (fl [(w_X5 ad (b1) cs S1_20h)]) H → va_D A (fl [(w_X5 ad (b1) cs S1_20h)]) → va_S A s.heap H locs → lv_has ls 6 [(0, .ref (ad b1)), (1, .int p1), (2, .int p2)] → W p l e (headSpec wsX5_changeSetting ({ frames := 1, cells := 0, slots := 0, locals := 21 } : Room)).room s m ([.ref (ad b1), .int p1, .int p2] : List Value).toArray below meth c H locs 0 0 (MQ below (QI dC dI (tyL cs) A (fl [(w_X5 ad (b1) cs u1)]) r) ([.ref (ad b1), .int p1, .int p2] : List Value).toArray s 0 0 A) (F0 m 20 ls [.int t0_20]) := by
    intro S1_20h t0_20 H locs ls hR hP hD hS hl
    refine lv_istore_n (lv' := [(3, .int t0_20), (0, .ref (ad b1)), (1, .int p1), (2, .int p2)]) hx hb dX5_changeSetting_20 rfl hl (Nat.le_of_ble_eq_true rfl) rfl (fun ls hl => ?_)
    refine lv_iload_n hx hb dX5_changeSetting_21 rfl (lv_at hl 2 rfl) ?_
    refine lv_if_ne (tgt := 30) hx hb dX5_changeSetting_22 (by decide) (fun c22 => ?_) (fun c22 => ?_)
    · replace hR := it_f hR c22
      refine lv_sipush (v := 999) hx hb dX5_changeSetting_30 sp_999 ?_
      exact hB33 S1_20h t0_20 (999 : Int32) H _ ls hR hP hD hS (lv_sub hl [1, 2, 3, 0] rfl)
    · replace hR := it_t hR c22
      refine lv_bipush (v := 99) hx hb dX5_changeSetting_25 bp_99 ?_
      refine lv_goto (tgt := 33) hx hb dX5_changeSetting_27 (by decide) ?_
      exact hB33 S1_20h t0_20 (99 : Int32) H _ ls hR hP hD hS (lv_sub hl [1, 2, 3, 0] rfl)
  refine lv_aload_n hx hb dX5_changeSetting_0 rfl (lv_at hl 0 rfl) ?_
  refine lv_iload_n hx hb dX5_changeSetting_1 rfl (lv_at hl 1 rfl) ?_
  replace hR := bd_e hR
  obtain ⟨q2, gq2, hR⟩ := hR
  refine cl_Vi (As := [.int p1]) (rest := []) (L := [(w_X5 ad (b1) cs S1)]) (L' := [(w_X5 ad (b1) cs S1)]) (Wc := [(w_X5 ad (b1) cs S1)]) (Wc' := [(w_X5 ad (b1) cs S1)]) (is := [0]) (js := []) ⟨hx, hb, hml, hown, hts⟩ (k_X5_isSetting l dC dI cs ad (b1) s.heap.size S1 p1 q2 gq2) (cwV 1 hts gX5_changeSetting_X5_isSetting rfl rfl rfl cd_X5_isSetting ⟨Nat.le_of_ble_eq_true rfl, Nat.le_of_ble_eq_true rfl⟩) hK hP hD hS hA ⟨rfl, rfl, rfl, rfl, rfl, rfl⟩ (jn_nd (is := [0]) hD rfl rfl) 0 4 rfl rfl rfl rfl rfl hl.1 (Nat.le_of_ble_eq_true rfl) dX5_changeSetting_2 (fun H2 locs2 hP' hD' hS' => ?_)
  replace hS := hS'
  replace hP : va_P (dC, dI) vwCl (fl [(w_X5 ad (b1) cs S1)]) H2 := hP'
  replace hD : va_D A (fl [(w_X5 ad (b1) cs S1)]) := hD'
  clear hP' hD' hS'
  refine lv_if_ne (tgt := 10) hx hb dX5_changeSetting_5 (by decide) (fun c5 => ?_) (fun c5 => ?_)
  · replace hR := it_f hR c5
    refine lv_iload_n hx hb dX5_changeSetting_10 rfl (lv_at hl 1 rfl) ?_
    refine lv_iconst (v := 1) hx hb dX5_changeSetting_11 ic_1 ?_
    refine lv_icmp_ne (tgt := 19) hx hb dX5_changeSetting_12 (by decide) (fun c12 => ?_) (fun c12 => ?_)
    · replace hR := it_f hR c12
      refine lv_iconst (v := 0) hx hb dX5_changeSetting_19 ic_0 ?_
      exact hB20 S1 (0 : Int32) H2 _ ls hR hP hD hS (lv_sub hl [0, 1, 2] rfl)
    · replace hR := it_t hR c12
      refine lv_iconst (v := 1) hx hb dX5_changeSetting_15 ic_1 ?_
      refine lv_goto (tgt := 20) hx hb dX5_changeSetting_16 (by decide) ?_
      exact hB20 S1 (1 : Int32) H2 _ ls hR hP hD hS (lv_sub hl [0, 1, 2] rfl)
  · replace hR := it_t hR c5
    refine lv_iconst (v := (-1)) hx hb dX5_changeSetting_8 ic_m1 ?_
    replace hR := Option.some.inj hR
    obtain ⟨e9, hR⟩ := Prod.mk.inj hR
    have eu1 := hR
    replace hP : va_P (dC, dI) vwCl (fl [(w_X5 ad (b1) cs u1)]) H2 := by rw [← eu1]; exact hP
    replace hD : va_D A (fl [(w_X5 ad (b1) cs u1)]) := by rw [← eu1]; exact hD
    exact W.iret hx hb hr (fun t ht hW => ⟨⟨_, (), rfl, e9, by rw [ht]; exact hP, va_K.moved hW.alike hK, hD⟩, hS.F ht⟩) hS.2.2 dX5_changeSetting_9
set_option maxHeartbeats 8000000 in
set_option maxRecDepth 100000 in
theorem k_X5_unevenness (l : Launch) (dC : Nat → ClassId) (dI : Nat → Nat → Nat) (cs : Nat → ClassId) (ad : Nat → Nat) (b1 : Nat) (sz : Nat) (S1 : T3) (p1 : Int32) (r : Int32) (hR : fX5_unevenness S1 p1 = some r) : Met l yX5_unevenness wsX5_unevenness ({ frames := 2, cells := 0, slots := 0, locals := 45 } : Room) (va_Pc [.ref (ad b1), .int p1] (pW dC dI (tyL cs) (fl [(w_X5 ad (b1) cs S1)]) sz)) (QI dC dI (tyL cs) (va_A (fl [(w_X5 ad (b1) cs S1)]) sz) (fl [(w_X5 ad (b1) cs S1)]) r) 0 0 (va_A (fl [(w_X5 ad (b1) cs S1)]) sz) := by
  refine mt_of (own := RX5) (cc := cX5_unevenness) (maxL := 2) (ret := (some .int)) (Qc := fun A => QI dC dI (tyL cs) A (fl [(w_X5 ad (b1) cs S1)]) r) rfl (by decide) rfl (Nat.le_of_ble_eq_true rfl) (fun p e s m below meth c A ls hsz hx hb hr hts hown hlocks hml hA hK hP hD hS hl => ?_)
  subst hsz
  have hl : lv_has ls 2 [(0, .ref (ad b1)), (1, .int p1)] := hl
  have hF12 := hts (.fieldLink RX5 12 "DockedBikes$Road" "stations" "LDockedBikes$Stations;") (List.mem_of_getElem? (i := 1) rfl)
  have hF192 := hts (.fieldLink RX5 192 "DockedBikes$Stations" "docks" "[I") (List.mem_of_getElem? (i := 2) rfl)
  have hinX5 : ∀ w ∈ wsX50, w ∈ wsX5_unevenness := by decide +kernel
  have hinX6 : ∀ w ∈ wsX60, w ∈ wsX5_unevenness := by decide +kernel
  refine lv_aload_n hx hb dX5_unevenness_0 rfl (lv_at hl 0 rfl) ?_
  refine va_get (D := (dC, dI)) (ci := 4) (v := .ref (ad (b1 + 1))) (C := RX5) (T := TX5) (N := 6) hx hb hts hinX5 hown hK hP 0 rfl rfl 0 (by decide) hF12 (fun _ h9 => h9) rfl dX5_unevenness_1 ?_
  refine lv_iload_n hx hb dX5_unevenness_4 rfl (lv_at hl 1 rfl) ?_
  replace hR := bd_e hR
  obtain ⟨q5, gq5, hR⟩ := hR
  replace hP : va_P (dC, dI) vwCl (fl [[((ad b1), .inr (4, [.ref (ad (b1 + 1)), .ref (ad (b1 + 6)), .ref (ad (b1 + 13)), .ref (ad (b1 + 23)), .ref (ad (b1 + 27)), .int (S1 4 1 0)]))], (w_X6 ad (b1 + 1) cs (S1 0)), (w_X1 ad (b1 + 6) cs (S1 1)), (w_X4 ad (b1 + 13) cs (S1 2)), (w_X8 ad (b1 + 23) cs (S1 3)), [((ad (b1 + 27)), .inl (cs 0, 3, .inl (S1 4 0)))]]) s.heap := hP
  replace hD : va_D A (fl [[((ad b1), .inr (4, [.ref (ad (b1 + 1)), .ref (ad (b1 + 6)), .ref (ad (b1 + 13)), .ref (ad (b1 + 23)), .ref (ad (b1 + 27)), .int (S1 4 1 0)]))], (w_X6 ad (b1 + 1) cs (S1 0)), (w_X1 ad (b1 + 6) cs (S1 1)), (w_X4 ad (b1 + 13) cs (S1 2)), (w_X8 ad (b1 + 23) cs (S1 3)), [((ad (b1 + 27)), .inl (cs 0, 3, .inl (S1 4 0)))]]) := hD
  refine cl_Vi (As := [.int p1]) (rest := []) (L := [[((ad b1), .inr (4, [.ref (ad (b1 + 1)), .ref (ad (b1 + 6)), .ref (ad (b1 + 13)), .ref (ad (b1 + 23)), .ref (ad (b1 + 27)), .int (S1 4 1 0)]))], (w_X6 ad (b1 + 1) cs (S1 0)), (w_X1 ad (b1 + 6) cs (S1 1)), (w_X4 ad (b1 + 13) cs (S1 2)), (w_X8 ad (b1 + 23) cs (S1 3)), [((ad (b1 + 27)), .inl (cs 0, 3, .inl (S1 4 0)))]]) (L' := [[((ad b1), .inr (4, [.ref (ad (b1 + 1)), .ref (ad (b1 + 6)), .ref (ad (b1 + 13)), .ref (ad (b1 + 23)), .ref (ad (b1 + 27)), .int (S1 4 1 0)]))], (w_X6 ad (b1 + 1) cs (S1 0)), (w_X1 ad (b1 + 6) cs (S1 1)), (w_X4 ad (b1 + 13) cs (S1 2)), (w_X8 ad (b1 + 23) cs (S1 3)), [((ad (b1 + 27)), .inl (cs 0, 3, .inl (S1 4 0)))]]) (Wc := [(w_X6 ad (b1 + 1) cs (S1 0))]) (Wc' := [(w_X6 ad (b1 + 1) cs (S1 0))]) (is := [1]) (js := [0, 2, 3, 4, 5]) ⟨hx, hb, hml, hown, hts⟩ (k_X6_has l dC dI cs ad (b1 + 1) s.heap.size (S1 0) p1 q5 gq5) (cwV 1 hts gX5_unevenness_X6_has rfl rfl rfl cd_X6_has ⟨Nat.le_of_ble_eq_true rfl, Nat.le_of_ble_eq_true rfl⟩) hK hP hD hS hA ⟨rfl, rfl, rfl, rfl, rfl, rfl⟩ (jn_nd (is := [1]) hD rfl rfl) 1 5 rfl rfl rfl rfl rfl hl.1 (Nat.le_of_ble_eq_true rfl) dX5_unevenness_5 (fun H5 locs5 hP' hD' hS' => ?_)
  replace hS := hS'
  replace hP : va_P (dC, dI) vwCl (fl [(w_X5 ad (b1) cs S1)]) H5 := hP'
  replace hD : va_D A (fl [(w_X5 ad (b1) cs S1)]) := hD'
  clear hP' hD' hS'
  refine lv_if_eq (tgt := 34) hx hb dX5_unevenness_8 (by decide) (fun c8 => ?_) (fun c8 => ?_)
  · replace hR := it_t hR c8
    refine lv_iconst (v := 0) hx hb dX5_unevenness_34 ic_0 ?_
    replace hR := Option.some.inj hR
    have e9 := hR
    exact W.iret hx hb hr (fun t ht hW => ⟨⟨_, (), rfl, e9, by rw [ht]; exact hP, va_K.moved hW.alike hK, hD⟩, hS.F ht⟩) hS.2.2 dX5_unevenness_35
  · replace hR := it_f hR c8
    refine lv_iconst (v := 2) hx hb dX5_unevenness_11 ic_2 ?_
    refine lv_aload_n hx hb dX5_unevenness_12 rfl (lv_at hl 0 rfl) ?_
    refine lv_iload_n hx hb dX5_unevenness_13 rfl (lv_at hl 1 rfl) ?_
    replace hR := bd_e hR
    obtain ⟨q14, gq14, hR⟩ := hR
    refine cl_Vi (As := [.int p1]) (rest := [.int (2 : Int32)]) (L := [(w_X5 ad (b1) cs S1)]) (L' := [(w_X5 ad (b1) cs S1)]) (Wc := [(w_X5 ad (b1) cs S1)]) (Wc' := [(w_X5 ad (b1) cs S1)]) (is := [0]) (js := []) ⟨hx, hb, hml, hown, hts⟩ (k_X5_docked l dC dI cs ad (b1) H5.size S1 p1 q14 gq14) (cwV 1 hts gX5_unevenness_X5_docked rfl rfl rfl cd_X5_docked ⟨Nat.le_of_ble_eq_true rfl, Nat.le_of_ble_eq_true rfl⟩) hK hP hD hS hA ⟨rfl, rfl, rfl, rfl, rfl, rfl⟩ (jn_nd (is := [0]) hD rfl rfl) 0 4 rfl rfl rfl rfl rfl hl.1 (Nat.le_of_ble_eq_true rfl) dX5_unevenness_14 (fun H14 locs14 hP' hD' hS' => ?_)
    replace hS := hS'
    replace hP : va_P (dC, dI) vwCl (fl [(w_X5 ad (b1) cs S1)]) H14 := hP'
    replace hD : va_D A (fl [(w_X5 ad (b1) cs S1)]) := hD'
    clear hP' hD' hS'
    refine lv_imul hx hb dX5_unevenness_17 ?_
    refine lv_aload_n hx hb dX5_unevenness_18 rfl (lv_at hl 0 rfl) ?_
    refine va_get (D := (dC, dI)) (ci := 4) (v := .ref (ad (b1 + 1))) (C := RX5) (T := TX5) (N := 6) hx hb hts hinX5 hown hK hP 0 rfl rfl 0 (by decide) hF12 (fun _ h9 => h9) rfl dX5_unevenness_19 ?_
    refine va_get (D := (dC, dI)) (ci := 5) (v := .ref (ad (b1 + 1 + 2))) (C := RX6) (T := TX6) (N := 5) hx hb hts hinX6 hown hK hP 1 rfl rfl 2 (by decide) hF192 (fun _ h9 => h9) rfl dX5_unevenness_22 ?_
    refine lv_iload_n hx hb dX5_unevenness_25 rfl (lv_at hl 1 rfl) ?_
    replace hR := gi_e hR
    obtain ⟨i26, hR⟩ := hR
    refine va_iald hx hb hK hP 3 0 rfl rfl i26 dX5_unevenness_26 ?_
    refine lv_isub hx hb dX5_unevenness_27 ?_
    refine va_mabs hx hb (hml.trans hl.1.symm) hown (hts (.methodLink RX5 195 Lib.Math.abs.name) (List.mem_of_getElem? (i := 3) rfl)) (hts (.static Lib.Math.abs.name) (List.mem_of_getElem? (i := 4) rfl)) (hts (.initialized "java/lang/Math") (List.mem_of_getElem? (i := 5) rfl)) (hts (.code Lib.Math.abs.name Lib.Math.abs.code 1 (some .int)) (List.mem_of_getElem? (i := 6) rfl)) (Nat.le_of_ble_eq_true rfl) (Nat.le_of_ble_eq_true rfl) (Nat.zero_le _) (Nat.zero_le _) dX5_unevenness_28 ?_
    replace hR := bn_e hR
    obtain ⟨m28, em28, hR⟩ := hR
    refine tp_e em28 ?_
    refine lv_goto (tgt := 35) hx hb dX5_unevenness_31 (by decide) ?_
    replace hR := Option.some.inj hR
    have e9 := hR
    exact W.iret hx hb hr (fun t ht hW => ⟨⟨_, (), rfl, e9, by rw [ht]; exact hP, va_K.moved hW.alike hK, hD⟩, hS.F ht⟩) hS.2.2 dX5_unevenness_35
set_option maxHeartbeats 8000000 in
set_option maxRecDepth 100000 in
theorem k_X5_allUnevenness (l : Launch) (dC : Nat → ClassId) (dI : Nat → Nat → Nat) (cs : Nat → ClassId) (ad : Nat → Nat) (b1 : Nat) (sz : Nat) (S1 : T3) (r : Int32) (hR : fX5_allUnevenness S1 = some r) : Met l yX5_allUnevenness wsX5_allUnevenness ({ frames := 3, cells := 0, slots := 0, locals := 66 } : Room) (va_Pc [.ref (ad b1)] (pW dC dI (tyL cs) (fl [(w_X5 ad (b1) cs S1)]) sz)) (QI dC dI (tyL cs) (va_A (fl [(w_X5 ad (b1) cs S1)]) sz) (fl [(w_X5 ad (b1) cs S1)]) r) 0 0 (va_A (fl [(w_X5 ad (b1) cs S1)]) sz) := by
  refine mt_of (own := RX5) (cc := cX5_allUnevenness) (maxL := 3) (ret := (some .int)) (Qc := fun A => QI dC dI (tyL cs) A (fl [(w_X5 ad (b1) cs S1)]) r) rfl (by decide) rfl (Nat.le_of_ble_eq_true rfl) (fun p e s m below meth c A ls hsz hx hb hr hts hown hlocks hml hA hK hP hD hS hl => ?_)
  subst hsz
  have hl : lv_has ls 3 [(0, .ref (ad b1))] := hl
  have hF12 := hts (.fieldLink RX5 12 "DockedBikes$Road" "stations" "LDockedBikes$Stations;") (List.mem_of_getElem? (i := 1) rfl)
  have hF198 := hts (.fieldLink RX5 198 "DockedBikes$Stations" "size" "I") (List.mem_of_getElem? (i := 2) rfl)
  have hinX5 : ∀ w ∈ wsX50, w ∈ wsX5_allUnevenness := by decide +kernel
  have hinX6 : ∀ w ∈ wsX60, w ∈ wsX5_allUnevenness := by decide +kernel
  have hB4 : ∀ (n4 : Nat), ∀ (v1_4 : Int32) (v2_4 : Int32) (H : Heap) (locs : List Loc) (ls : Array Slot), fX5_allUnevenness_4 S1 n4 v1_4 v2_4 = some r → va_P (dC, dI) vwCl (fl [(w_X5 ad (b1) cs S1)]) H → va_D A (fl [(w_X5 ad (b1) cs S1)]) → va_S A s.heap H locs → lv_has ls 3 [(0, .ref (ad b1)), (1, .int v1_4), (2, .int v2_4)] → W p l e (headSpec wsX5_allUnevenness ({ frames := 3, cells := 0, slots := 0, locals := 66 } : Room)).room s m ([.ref (ad b1)] : List Value).toArray below meth c H locs 0 0 (MQ below (QI dC dI (tyL cs) A (fl [(w_X5 ad (b1) cs S1)]) r) ([.ref (ad b1)] : List Value).toArray s 0 0 A) (F0 m 4 ls []) := by
    intro n4
    induction n4 with
    | zero =>
      intro v1_4 v2_4 H locs ls hR hP hD hS hl
      exact nn_e hR
    | succ n4 hI4 =>
      intro v1_4 v2_4 H locs ls hR hP hD hS hl
      rw [fX5_allUnevenness_4] at hR
      refine lv_iload_n hx hb dX5_allUnevenness_4 rfl (lv_at hl 2 rfl) ?_
      refine lv_aload_n hx hb dX5_allUnevenness_5 rfl (lv_at hl 0 rfl) ?_
      refine va_get (D := (dC, dI)) (ci := 4) (v := .ref (ad (b1 + 1))) (C := RX5) (T := TX5) (N := 6) hx hb hts hinX5 hown hK hP 0 rfl rfl 0 (by decide) hF12 (fun _ h9 => h9) rfl dX5_allUnevenness_6 ?_
      refine va_get (D := (dC, dI)) (ci := 5) (v := .int (S1 0 4 0)) (C := RX6) (T := TX6) (N := 5) hx hb hts hinX6 hown hK hP 1 rfl rfl 0 (by decide) hF198 (fun _ h9 => h9) rfl dX5_allUnevenness_9 ?_
      refine lv_icmp_ge (tgt := 29) hx hb dX5_allUnevenness_12 (by decide) (fun c12 => ?_) (fun c12 => ?_)
      · replace hR := it_t hR c12
        refine lv_iload_n hx hb dX5_allUnevenness_29 rfl (lv_at hl 1 rfl) ?_
        replace hR := Option.some.inj hR
        have e9 := hR
        exact W.iret hx hb hr (fun t ht hW => ⟨⟨_, (), rfl, e9, by rw [ht]; exact hP, va_K.moved hW.alike hK, hD⟩, hS.F ht⟩) hS.2.2 dX5_allUnevenness_30
      · replace hR := it_f hR c12
        refine lv_iload_n hx hb dX5_allUnevenness_15 rfl (lv_at hl 1 rfl) ?_
        refine lv_aload_n hx hb dX5_allUnevenness_16 rfl (lv_at hl 0 rfl) ?_
        refine lv_iload_n hx hb dX5_allUnevenness_17 rfl (lv_at hl 2 rfl) ?_
        replace hR := bd_e hR
        obtain ⟨q18, gq18, hR⟩ := hR
        refine cl_Vi (As := [.int v2_4]) (rest := [.int v1_4]) (L := [(w_X5 ad (b1) cs S1)]) (L' := [(w_X5 ad (b1) cs S1)]) (Wc := [(w_X5 ad (b1) cs S1)]) (Wc' := [(w_X5 ad (b1) cs S1)]) (is := [0]) (js := []) ⟨hx, hb, hml, hown, hts⟩ (k_X5_unevenness l dC dI cs ad (b1) H.size S1 v2_4 q18 gq18) (cwV 1 hts gX5_allUnevenness_X5_unevenness rfl rfl rfl cd_X5_unevenness ⟨Nat.le_of_ble_eq_true rfl, Nat.le_of_ble_eq_true rfl⟩) hK hP hD hS hA ⟨rfl, rfl, rfl, rfl, rfl, rfl⟩ (jn_nd (is := [0]) hD rfl rfl) 0 4 rfl rfl rfl rfl rfl hl.1 (Nat.le_of_ble_eq_true rfl) dX5_allUnevenness_18 (fun H18 locs18 hP' hD' hS' => ?_)
        replace hS := hS'
        replace hP : va_P (dC, dI) vwCl (fl [(w_X5 ad (b1) cs S1)]) H18 := hP'
        replace hD : va_D A (fl [(w_X5 ad (b1) cs S1)]) := hD'
        clear hP' hD' hS'
        refine lv_iadd hx hb dX5_allUnevenness_21 ?_
        refine lv_istore_n (lv' := [(1, .int (v1_4 + q18)), (0, .ref (ad b1)), (2, .int v2_4)]) hx hb dX5_allUnevenness_22 rfl hl (Nat.le_of_ble_eq_true rfl) rfl (fun ls hl => ?_)
        refine lv_iinc (v := (v2_4 + 1)) (lv' := [(2, .int (v2_4 + 1)), (1, .int (v1_4 + q18)), (0, .ref (ad b1))]) hx hb dX5_allUnevenness_23 hl (k := 2) rfl rfl (Nat.le_of_ble_eq_true rfl) rfl (fun ls hl => ?_)
        refine lv_goto (tgt := 4) hx hb dX5_allUnevenness_26 (by decide) ?_
        exact hI4 (v1_4 + q18) (v2_4 + 1) H18 _ ls hR hP hD hS (lv_sub hl [2, 1, 0] rfl)
  refine lv_iconst (v := 0) hx hb dX5_allUnevenness_0 ic_0 ?_
  refine lv_istore_n (lv' := [(1, .int (0 : Int32)), (0, .ref (ad b1))]) hx hb dX5_allUnevenness_1 rfl hl (Nat.le_of_ble_eq_true rfl) rfl (fun ls hl => ?_)
  refine lv_iconst (v := 0) hx hb dX5_allUnevenness_2 ic_0 ?_
  refine lv_istore_n (lv' := [(2, .int (0 : Int32)), (1, .int (0 : Int32)), (0, .ref (ad b1))]) hx hb dX5_allUnevenness_3 rfl hl (Nat.le_of_ble_eq_true rfl) rfl (fun ls hl => ?_)
  exact hB4 fuel (0 : Int32) (0 : Int32) s.heap _ ls hR hP hD hS (lv_sub hl [2, 1, 0] rfl)
set_option maxHeartbeats 8000000 in
set_option maxRecDepth 100000 in
theorem k_X8_minutesLeft (l : Launch) (dC : Nat → ClassId) (dI : Nat → Nat → Nat) (cs : Nat → ClassId) (ad : Nat → Nat) (b1 : Nat) (sz : Nat) (S1 : T2) (p1 : Int32) (p2 : Int32) (r : Int32) (hR : fX8_minutesLeft S1 p1 p2 = some r) : Met l yX8_minutesLeft wsX8_minutesLeft ({ frames := 1, cells := 0, slots := 0, locals := 21 } : Room) (va_Pc [.ref (ad b1), .int p1, .int p2] (pW dC dI (tyL cs) (fl [(w_X8 ad (b1) cs S1)]) sz)) (QI dC dI (tyL cs) (va_A (fl [(w_X8 ad (b1) cs S1)]) sz) (fl [(w_X8 ad (b1) cs S1)]) r) 0 0 (va_A (fl [(w_X8 ad (b1) cs S1)]) sz) := by
  refine mt_of (own := RX8) (cc := cX8_minutesLeft) (maxL := 3) (ret := (some .int)) (Qc := fun A => QI dC dI (tyL cs) A (fl [(w_X8 ad (b1) cs S1)]) r) rfl (by decide) rfl (Nat.le_of_ble_eq_true rfl) (fun p e s m below meth c A ls hsz hx hb hr hts hown hlocks hml hA hK hP hD hS hl => ?_)
  subst hsz
  have hl : lv_has ls 3 [(0, .ref (ad b1)), (1, .int p1), (2, .int p2)] := hl
  have hF18 := hts (.fieldLink RX8 18 "DockedBikes$Vans" "arrival" "[I") (List.mem_of_getElem? (i := 1) rfl)
  have hinX8 : ∀ w ∈ wsX80, w ∈ wsX8_minutesLeft := by decide +kernel
  refine lv_aload_n hx hb dX8_minutesLeft_0 rfl (lv_at hl 0 rfl) ?_
  refine lv_iload_n hx hb dX8_minutesLeft_1 rfl (lv_at hl 1 rfl) ?_
  replace hR := bd_e hR
  obtain ⟨q2, gq2, hR⟩ := hR
  refine cl_Vi (As := [.int p1]) (rest := []) (L := [(w_X8 ad (b1) cs S1)]) (L' := [(w_X8 ad (b1) cs S1)]) (Wc := [(w_X8 ad (b1) cs S1)]) (Wc' := [(w_X8 ad (b1) cs S1)]) (is := [0]) (js := []) ⟨hx, hb, hml, hown, hts⟩ (k_X8_has l dC dI cs ad (b1) s.heap.size S1 p1 q2 gq2) (cwV 1 hts gX8_minutesLeft_X8_has rfl rfl rfl cd_X8_has ⟨Nat.le_of_ble_eq_true rfl, Nat.le_of_ble_eq_true rfl⟩) hK hP hD hS hA ⟨rfl, rfl, rfl, rfl, rfl, rfl⟩ (jn_nd (is := [0]) hD rfl rfl) 0 7 rfl rfl rfl rfl rfl hl.1 (Nat.le_of_ble_eq_true rfl) dX8_minutesLeft_2 (fun H2 locs2 hP' hD' hS' => ?_)
  replace hS := hS'
  replace hP : va_P (dC, dI) vwCl (fl [(w_X8 ad (b1) cs S1)]) H2 := hP'
  replace hD : va_D A (fl [(w_X8 ad (b1) cs S1)]) := hD'
  clear hP' hD' hS'
  refine lv_if_eq (tgt := 23) hx hb dX8_minutesLeft_5 (by decide) (fun c5 => ?_) (fun c5 => ?_)
  · replace hR := it_t hR c5
    refine lv_iconst (v := 0) hx hb dX8_minutesLeft_23 ic_0 ?_
    replace hR := Option.some.inj hR
    have e9 := hR
    exact W.iret hx hb hr (fun t ht hW => ⟨⟨_, (), rfl, e9, by rw [ht]; exact hP, va_K.moved hW.alike hK, hD⟩, hS.F ht⟩) hS.2.2 dX8_minutesLeft_24
  · replace hR := it_f hR c5
    refine lv_iconst (v := 0) hx hb dX8_minutesLeft_8 ic_0 ?_
    refine lv_aload_n hx hb dX8_minutesLeft_9 rfl (lv_at hl 0 rfl) ?_
    refine va_get (D := (dC, dI)) (ci := 7) (v := .ref (ad (b1 + 3))) (C := RX8) (T := TX8) (N := 4) hx hb hts hinX8 hown hK hP 0 rfl rfl 3 (by decide) hF18 (fun _ h9 => h9) rfl dX8_minutesLeft_10 ?_
    refine lv_iload_n hx hb dX8_minutesLeft_13 rfl (lv_at hl 1 rfl) ?_
    replace hR := gi_e hR
    obtain ⟨i14, hR⟩ := hR
    refine va_iald hx hb hK hP 3 0 rfl rfl i14 dX8_minutesLeft_14 ?_
    refine lv_iload_n hx hb dX8_minutesLeft_15 rfl (lv_at hl 2 rfl) ?_
    refine lv_isub hx hb dX8_minutesLeft_16 ?_
    refine va_mmax hx hb (hml.trans hl.1.symm) hown (hts (.methodLink RX8 35 Lib.Math.max.name) (List.mem_of_getElem? (i := 2) rfl)) (hts (.static Lib.Math.max.name) (List.mem_of_getElem? (i := 3) rfl)) (hts (.initialized "java/lang/Math") (List.mem_of_getElem? (i := 4) rfl)) (hts (.code Lib.Math.max.name Lib.Math.max.code 2 (some .int)) (List.mem_of_getElem? (i := 5) rfl)) (Nat.le_of_ble_eq_true rfl) (Nat.le_of_ble_eq_true rfl) (Nat.zero_le _) (Nat.zero_le _) dX8_minutesLeft_17 ?_
    replace hR := bn_e hR
    obtain ⟨m17, em17, hR⟩ := hR
    refine tp_e em17 ?_
    refine lv_goto (tgt := 24) hx hb dX8_minutesLeft_20 (by decide) ?_
    replace hR := Option.some.inj hR
    have e9 := hR
    exact W.iret hx hb hr (fun t ht hW => ⟨⟨_, (), rfl, e9, by rw [ht]; exact hP, va_K.moved hW.alike hK, hD⟩, hS.F ht⟩) hS.2.2 dX8_minutesLeft_24
set_option maxHeartbeats 8000000 in
set_option maxRecDepth 100000 in
theorem k_X10_freshDraft (l : Launch) (dC : Nat → ClassId) (dI : Nat → Nat → Nat) (cs : Nat → ClassId) (ad : Nat → Nat) (en : Nat → Nat) (sz : Nat) (S1 : T5) (u1 : T5) (hR : fX10_freshDraft S1 = some u1) : Met l yX10_freshDraft wsX10_freshDraft ({ frames := 3, cells := 0, slots := 0, locals := 72 } : Room) (va_Pc [.ref (ad 0)] (pW dC dI (tyL cs) (fl [(w_X10 ad (0) cs en S1)]) sz)) (QA dC dI (tyL cs) (va_A (fl [(w_X10 ad (0) cs en S1)]) sz) (fl [(w_X10 ad (0) cs en u1)]) (ad (0 + 29))) 0 0 (va_A (fl [(w_X10 ad (0) cs en S1)]) sz) := by
  refine mt_of (own := RX10) (cc := cX10_freshDraft) (maxL := 1) (ret := (some (.object "DockedBikes$Road"))) (Qc := fun A => QA dC dI (tyL cs) A (fl [(w_X10 ad (0) cs en u1)]) (ad (0 + 29))) rfl (by decide) rfl (Nat.le_of_ble_eq_true rfl) (fun p e s m below meth c A ls hsz hx hb hr hts hown hlocks hml hA hK hP hD hS hl => ?_)
  subst hsz
  have hl : lv_has ls 1 [(0, .ref (ad 0))] := hl
  have hF10 := hts (.fieldLink RX10 10 "DockedBikes" "now" "LDockedBikes$Road;") (List.mem_of_getElem? (i := 2) rfl)
  have hF16 := hts (.fieldLink RX10 16 "DockedBikes" "draft" "LDockedBikes$Road;") (List.mem_of_getElem? (i := 1) rfl)
  have hinX10 : ∀ w ∈ wsX100, w ∈ wsX10_freshDraft := by decide +kernel
  refine lv_aload_n hx hb dX10_freshDraft_0 rfl (lv_at hl 0 rfl) ?_
  refine va_get (D := (dC, dI)) (ci := 8) (v := .ref (ad (0 + 29))) (C := RX10) (T := TX10) (N := 7) hx hb hts hinX10 hown hK hP 0 rfl rfl 1 (by decide) hF16 (fun _ h9 => h9) rfl dX10_freshDraft_1 ?_
  refine lv_aload_n hx hb dX10_freshDraft_4 rfl (lv_at hl 0 rfl) ?_
  refine va_get (D := (dC, dI)) (ci := 8) (v := .ref (ad (0 + 1))) (C := RX10) (T := TX10) (N := 7) hx hb hts hinX10 hown hK hP 0 rfl rfl 0 (by decide) hF10 (fun _ h9 => h9) rfl dX10_freshDraft_5 ?_
  replace hR := bd_e hR
  obtain ⟨q8, gq8, hR⟩ := hR
  replace hP : va_P (dC, dI) vwCl (fl [[((ad 0), .inr (8, [.ref (ad (0 + 1)), .ref (ad (0 + 29)), .ref (ad (0 + 57)), .int (S1 1 3 2 0 0), .ref (ad (0 + 85)), .ref (ad (0 + 199)), .ref (ad (0 + 202))]))], (w_X5 ad (0 + 1) cs (S1 1 0)), (w_X5 ad (0 + 29) cs (S1 1 1)), (w_X5 ad (0 + 57) cs (S1 1 2)), (w_X3 ad (0 + 85) cs (S1 0)), (w_X2 ad (0 + 199) cs (S1 1 3 0)), (w_X7 ad (0 + 202) cs en (S1 1 3 1))]) s.heap := hP
  replace hD : va_D A (fl [[((ad 0), .inr (8, [.ref (ad (0 + 1)), .ref (ad (0 + 29)), .ref (ad (0 + 57)), .int (S1 1 3 2 0 0), .ref (ad (0 + 85)), .ref (ad (0 + 199)), .ref (ad (0 + 202))]))], (w_X5 ad (0 + 1) cs (S1 1 0)), (w_X5 ad (0 + 29) cs (S1 1 1)), (w_X5 ad (0 + 57) cs (S1 1 2)), (w_X3 ad (0 + 85) cs (S1 0)), (w_X2 ad (0 + 199) cs (S1 1 3 0)), (w_X7 ad (0 + 202) cs en (S1 1 3 1))]) := hD
  refine cl_Vv (As := [.ref (ad (0 + 1))]) (rest := []) (L := [[((ad 0), .inr (8, [.ref (ad (0 + 1)), .ref (ad (0 + 29)), .ref (ad (0 + 57)), .int (S1 1 3 2 0 0), .ref (ad (0 + 85)), .ref (ad (0 + 199)), .ref (ad (0 + 202))]))], (w_X5 ad (0 + 1) cs (S1 1 0)), (w_X5 ad (0 + 29) cs (S1 1 1)), (w_X5 ad (0 + 57) cs (S1 1 2)), (w_X3 ad (0 + 85) cs (S1 0)), (w_X2 ad (0 + 199) cs (S1 1 3 0)), (w_X7 ad (0 + 202) cs en (S1 1 3 1))]) (L' := [[((ad 0), .inr (8, [.ref (ad (0 + 1)), .ref (ad (0 + 29)), .ref (ad (0 + 57)), .int ((sU S1 1 (sU (S1 1) 1 q8)) 1 3 2 0 0), .ref (ad (0 + 85)), .ref (ad (0 + 199)), .ref (ad (0 + 202))]))], (w_X5 ad (0 + 1) cs ((sU S1 1 (sU (S1 1) 1 q8)) 1 0)), (w_X5 ad (0 + 29) cs ((sU S1 1 (sU (S1 1) 1 q8)) 1 1)), (w_X5 ad (0 + 57) cs ((sU S1 1 (sU (S1 1) 1 q8)) 1 2)), (w_X3 ad (0 + 85) cs ((sU S1 1 (sU (S1 1) 1 q8)) 0)), (w_X2 ad (0 + 199) cs ((sU S1 1 (sU (S1 1) 1 q8)) 1 3 0)), (w_X7 ad (0 + 202) cs en ((sU S1 1 (sU (S1 1) 1 q8)) 1 3 1))]) (Wc := [(w_X5 ad (0 + 29) cs (S1 1 1)), (w_X5 ad (0 + 1) cs (S1 1 0))]) (Wc' := [(w_X5 ad (0 + 29) cs q8), (w_X5 ad (0 + 1) cs (S1 1 0))]) (is := [2, 1]) (js := [0, 3, 4, 5, 6]) ⟨hx, hb, hml, hown, hts⟩ (k_X5_copy l dC dI cs ad (0 + 29) (0 + 1) s.heap.size (S1 1 1) (S1 1 0) q8 gq8) (cwV 1 hts gX10_freshDraft_X5_copy rfl rfl rfl cd_X5_copy ⟨Nat.le_of_ble_eq_true rfl, Nat.le_of_ble_eq_true rfl⟩) hK hP hD hS hA ⟨rfl, rfl, rfl, rfl, rfl, rfl⟩ (jn_nd (is := [2, 1]) hD rfl rfl) 29 4 rfl rfl rfl rfl rfl hl.1 (Nat.le_of_ble_eq_true rfl) dX10_freshDraft_8 (fun H8 locs8 hP' hD' hS' => ?_)
  replace hS := hS'
  have hP' : va_P (dC, dI) vwCl (fl [(w_X10 ad (0) cs en (sU S1 1 (sU (S1 1) 1 q8)))]) H8 := hP'
  have hD' : va_D A (fl [(w_X10 ad (0) cs en (sU S1 1 (sU (S1 1) 1 q8)))]) := hD'
  replace hR := bn_e hR
  obtain ⟨S1_8, eS1_8, hR⟩ := hR
  replace hP : va_P (dC, dI) vwCl (fl [(w_X10 ad (0) cs en S1_8)]) H8 := by rw [eS1_8]; exact hP'
  replace hD : va_D A (fl [(w_X10 ad (0) cs en S1_8)]) := by rw [eS1_8]; exact hD'
  clear hP' hD' hS'
  refine lv_aload_n hx hb dX10_freshDraft_11 rfl (lv_at hl 0 rfl) ?_
  refine va_get (D := (dC, dI)) (ci := 8) (v := .ref (ad (0 + 29))) (C := RX10) (T := TX10) (N := 7) hx hb hts hinX10 hown hK hP 0 rfl rfl 1 (by decide) hF16 (fun _ h9 => h9) rfl dX10_freshDraft_12 ?_
  replace hR := Option.some.inj hR
  have eu1 := hR
  replace hP : va_P (dC, dI) vwCl (fl [(w_X10 ad (0) cs en u1)]) H8 := by rw [← eu1]; exact hP
  replace hD : va_D A (fl [(w_X10 ad (0) cs en u1)]) := by rw [← eu1]; exact hD
  exact W.aret hx hb hr (Or.inl ⟨_, rfl⟩) (Or.inr ⟨_, rfl⟩) (fun t ht hW => ⟨⟨(), _, rfl, trivial, rfl, by rw [ht]; exact hP, va_K.moved hW.alike hK, hD⟩, hS.F ht⟩) hS.2.2 dX10_freshDraft_15
set_option maxHeartbeats 8000000 in
set_option maxRecDepth 100000 in
theorem k_X10_settle (l : Launch) (dC : Nat → ClassId) (dI : Nat → Nat → Nat) (cs : Nat → ClassId) (ad : Nat → Nat) (en : Nat → Nat) (sz : Nat) (S1 : T5) (p1 : Int32) (r : Int32) (u1 : T5) (hR : fX10_settle S1 p1 = some (r, u1)) : Met l yX10_settle wsX10_settle ({ frames := 4, cells := 0, slots := 0, locals := 94 } : Room) (va_Pc [.ref (ad 0), .int p1] (pW dC dI (tyL cs) (fl [(w_X10 ad (0) cs en S1)]) sz)) (QI dC dI (tyL cs) (va_A (fl [(w_X10 ad (0) cs en S1)]) sz) (fl [(w_X10 ad (0) cs en u1)]) r) 0 0 (va_A (fl [(w_X10 ad (0) cs en S1)]) sz) := by
  refine mt_of (own := RX10) (cc := cX10_settle) (maxL := 2) (ret := (some .int)) (Qc := fun A => QI dC dI (tyL cs) A (fl [(w_X10 ad (0) cs en u1)]) r) rfl (by decide) rfl (Nat.le_of_ble_eq_true rfl) (fun p e s m below meth c A ls hsz hx hb hr hts hown hlocks hml hA hK hP hD hS hl => ?_)
  subst hsz
  have hl : lv_has ls 2 [(0, .ref (ad 0)), (1, .int p1)] := hl
  have hF10 := hts (.fieldLink RX10 10 "DockedBikes" "now" "LDockedBikes$Road;") (List.mem_of_getElem? (i := 2) rfl)
  have hF16 := hts (.fieldLink RX10 16 "DockedBikes" "draft" "LDockedBikes$Road;") (List.mem_of_getElem? (i := 3) rfl)
  have hF25 := hts (.fieldLink RX10 25 "DockedBikes" "history" "LDockedBikes$History;") (List.mem_of_getElem? (i := 1) rfl)
  have hinX10 : ∀ w ∈ wsX100, w ∈ wsX10_settle := by decide +kernel
  refine lv_iload_n hx hb dX10_settle_0 rfl (lv_at hl 1 rfl) ?_
  refine lv_if_lt (tgt := 26) hx hb dX10_settle_1 (by decide) (fun c1 => ?_) (fun c1 => ?_)
  · replace hR := it_t hR c1
    refine lv_iload_n hx hb dX10_settle_26 rfl (lv_at hl 1 rfl) ?_
    replace hR := Option.some.inj hR
    obtain ⟨e9, hR⟩ := Prod.mk.inj hR
    have eu1 := hR
    replace hP : va_P (dC, dI) vwCl (fl [(w_X10 ad (0) cs en u1)]) s.heap := by rw [← eu1]; exact hP
    replace hD : va_D A (fl [(w_X10 ad (0) cs en u1)]) := by rw [← eu1]; exact hD
    exact W.iret hx hb hr (fun t ht hW => ⟨⟨_, (), rfl, e9, by rw [ht]; exact hP, va_K.moved hW.alike hK, hD⟩, hS.F ht⟩) hS.2.2 dX10_settle_27
  · replace hR := it_f hR c1
    refine lv_aload_n hx hb dX10_settle_4 rfl (lv_at hl 0 rfl) ?_
    refine va_get (D := (dC, dI)) (ci := 8) (v := .ref (ad (0 + 85))) (C := RX10) (T := TX10) (N := 7) hx hb hts hinX10 hown hK hP 0 rfl rfl 4 (by decide) hF25 (fun _ h9 => h9) rfl dX10_settle_5 ?_
    refine lv_aload_n hx hb dX10_settle_8 rfl (lv_at hl 0 rfl) ?_
    refine va_get (D := (dC, dI)) (ci := 8) (v := .ref (ad (0 + 1))) (C := RX10) (T := TX10) (N := 7) hx hb hts hinX10 hown hK hP 0 rfl rfl 0 (by decide) hF10 (fun _ h9 => h9) rfl dX10_settle_9 ?_
    replace hR := bd_e hR
    obtain ⟨q12, gq12, hR⟩ := hR
    replace hP : va_P (dC, dI) vwCl (fl [[((ad 0), .inr (8, [.ref (ad (0 + 1)), .ref (ad (0 + 29)), .ref (ad (0 + 57)), .int (S1 1 3 2 0 0), .ref (ad (0 + 85)), .ref (ad (0 + 199)), .ref (ad (0 + 202))]))], (w_X5 ad (0 + 1) cs (S1 1 0)), (w_X5 ad (0 + 29) cs (S1 1 1)), (w_X5 ad (0 + 57) cs (S1 1 2)), (w_X3 ad (0 + 85) cs (S1 0)), (w_X2 ad (0 + 199) cs (S1 1 3 0)), (w_X7 ad (0 + 202) cs en (S1 1 3 1))]) s.heap := hP
    replace hD : va_D A (fl [[((ad 0), .inr (8, [.ref (ad (0 + 1)), .ref (ad (0 + 29)), .ref (ad (0 + 57)), .int (S1 1 3 2 0 0), .ref (ad (0 + 85)), .ref (ad (0 + 199)), .ref (ad (0 + 202))]))], (w_X5 ad (0 + 1) cs (S1 1 0)), (w_X5 ad (0 + 29) cs (S1 1 1)), (w_X5 ad (0 + 57) cs (S1 1 2)), (w_X3 ad (0 + 85) cs (S1 0)), (w_X2 ad (0 + 199) cs (S1 1 3 0)), (w_X7 ad (0 + 202) cs en (S1 1 3 1))]) := hD
    refine cl_Vv (As := [.ref (ad (0 + 1))]) (rest := []) (L := [[((ad 0), .inr (8, [.ref (ad (0 + 1)), .ref (ad (0 + 29)), .ref (ad (0 + 57)), .int (S1 1 3 2 0 0), .ref (ad (0 + 85)), .ref (ad (0 + 199)), .ref (ad (0 + 202))]))], (w_X5 ad (0 + 1) cs (S1 1 0)), (w_X5 ad (0 + 29) cs (S1 1 1)), (w_X5 ad (0 + 57) cs (S1 1 2)), (w_X3 ad (0 + 85) cs (S1 0)), (w_X2 ad (0 + 199) cs (S1 1 3 0)), (w_X7 ad (0 + 202) cs en (S1 1 3 1))]) (L' := [[((ad 0), .inr (8, [.ref (ad (0 + 1)), .ref (ad (0 + 29)), .ref (ad (0 + 57)), .int ((sU S1 0 q12) 1 3 2 0 0), .ref (ad (0 + 85)), .ref (ad (0 + 199)), .ref (ad (0 + 202))]))], (w_X5 ad (0 + 1) cs ((sU S1 0 q12) 1 0)), (w_X5 ad (0 + 29) cs ((sU S1 0 q12) 1 1)), (w_X5 ad (0 + 57) cs ((sU S1 0 q12) 1 2)), (w_X3 ad (0 + 85) cs ((sU S1 0 q12) 0)), (w_X2 ad (0 + 199) cs ((sU S1 0 q12) 1 3 0)), (w_X7 ad (0 + 202) cs en ((sU S1 0 q12) 1 3 1))]) (Wc := [(w_X3 ad (0 + 85) cs (S1 0)), (w_X5 ad (0 + 1) cs (S1 1 0))]) (Wc' := [(w_X3 ad (0 + 85) cs q12), (w_X5 ad (0 + 1) cs (S1 1 0))]) (is := [4, 1]) (js := [0, 2, 3, 5, 6]) ⟨hx, hb, hml, hown, hts⟩ (k_X3_record l dC dI cs ad (0 + 85) (0 + 1) s.heap.size (S1 0) (S1 1 0) q12 gq12) (cwV 1 hts gX10_settle_X3_record rfl rfl rfl cd_X3_record ⟨Nat.le_of_ble_eq_true rfl, Nat.le_of_ble_eq_true rfl⟩) hK hP hD hS hA ⟨rfl, rfl, rfl, rfl, rfl, rfl⟩ (jn_nd (is := [4, 1]) hD rfl rfl) 85 2 rfl rfl rfl rfl rfl hl.1 (Nat.le_of_ble_eq_true rfl) dX10_settle_12 (fun H12 locs12 hP' hD' hS' => ?_)
    replace hS := hS'
    have hP' : va_P (dC, dI) vwCl (fl [(w_X10 ad (0) cs en (sU S1 0 q12))]) H12 := hP'
    have hD' : va_D A (fl [(w_X10 ad (0) cs en (sU S1 0 q12))]) := hD'
    replace hR := bn_e hR
    obtain ⟨S1_12, eS1_12, hR⟩ := hR
    replace hP : va_P (dC, dI) vwCl (fl [(w_X10 ad (0) cs en S1_12)]) H12 := by rw [eS1_12]; exact hP'
    replace hD : va_D A (fl [(w_X10 ad (0) cs en S1_12)]) := by rw [eS1_12]; exact hD'
    clear hP' hD' hS'
    refine lv_aload_n hx hb dX10_settle_15 rfl (lv_at hl 0 rfl) ?_
    refine va_get (D := (dC, dI)) (ci := 8) (v := .ref (ad (0 + 1))) (C := RX10) (T := TX10) (N := 7) hx hb hts hinX10 hown hK hP 0 rfl rfl 0 (by decide) hF10 (fun _ h9 => h9) rfl dX10_settle_16 ?_
    refine lv_aload_n hx hb dX10_settle_19 rfl (lv_at hl 0 rfl) ?_
    refine va_get (D := (dC, dI)) (ci := 8) (v := .ref (ad (0 + 29))) (C := RX10) (T := TX10) (N := 7) hx hb hts hinX10 hown hK hP 0 rfl rfl 1 (by decide) hF16 (fun _ h9 => h9) rfl dX10_settle_20 ?_
    replace hR := bd_e hR
    obtain ⟨q23, gq23, hR⟩ := hR
    replace hP : va_P (dC, dI) vwCl (fl [[((ad 0), .inr (8, [.ref (ad (0 + 1)), .ref (ad (0 + 29)), .ref (ad (0 + 57)), .int (S1_12 1 3 2 0 0), .ref (ad (0 + 85)), .ref (ad (0 + 199)), .ref (ad (0 + 202))]))], (w_X5 ad (0 + 1) cs (S1_12 1 0)), (w_X5 ad (0 + 29) cs (S1_12 1 1)), (w_X5 ad (0 + 57) cs (S1_12 1 2)), (w_X3 ad (0 + 85) cs (S1_12 0)), (w_X2 ad (0 + 199) cs (S1_12 1 3 0)), (w_X7 ad (0 + 202) cs en (S1_12 1 3 1))]) H12 := hP
    replace hD : va_D A (fl [[((ad 0), .inr (8, [.ref (ad (0 + 1)), .ref (ad (0 + 29)), .ref (ad (0 + 57)), .int (S1_12 1 3 2 0 0), .ref (ad (0 + 85)), .ref (ad (0 + 199)), .ref (ad (0 + 202))]))], (w_X5 ad (0 + 1) cs (S1_12 1 0)), (w_X5 ad (0 + 29) cs (S1_12 1 1)), (w_X5 ad (0 + 57) cs (S1_12 1 2)), (w_X3 ad (0 + 85) cs (S1_12 0)), (w_X2 ad (0 + 199) cs (S1_12 1 3 0)), (w_X7 ad (0 + 202) cs en (S1_12 1 3 1))]) := hD
    refine cl_Vv (As := [.ref (ad (0 + 29))]) (rest := []) (L := [[((ad 0), .inr (8, [.ref (ad (0 + 1)), .ref (ad (0 + 29)), .ref (ad (0 + 57)), .int (S1_12 1 3 2 0 0), .ref (ad (0 + 85)), .ref (ad (0 + 199)), .ref (ad (0 + 202))]))], (w_X5 ad (0 + 1) cs (S1_12 1 0)), (w_X5 ad (0 + 29) cs (S1_12 1 1)), (w_X5 ad (0 + 57) cs (S1_12 1 2)), (w_X3 ad (0 + 85) cs (S1_12 0)), (w_X2 ad (0 + 199) cs (S1_12 1 3 0)), (w_X7 ad (0 + 202) cs en (S1_12 1 3 1))]) (L' := [[((ad 0), .inr (8, [.ref (ad (0 + 1)), .ref (ad (0 + 29)), .ref (ad (0 + 57)), .int ((sU S1_12 1 (sU (S1_12 1) 0 q23)) 1 3 2 0 0), .ref (ad (0 + 85)), .ref (ad (0 + 199)), .ref (ad (0 + 202))]))], (w_X5 ad (0 + 1) cs ((sU S1_12 1 (sU (S1_12 1) 0 q23)) 1 0)), (w_X5 ad (0 + 29) cs ((sU S1_12 1 (sU (S1_12 1) 0 q23)) 1 1)), (w_X5 ad (0 + 57) cs ((sU S1_12 1 (sU (S1_12 1) 0 q23)) 1 2)), (w_X3 ad (0 + 85) cs ((sU S1_12 1 (sU (S1_12 1) 0 q23)) 0)), (w_X2 ad (0 + 199) cs ((sU S1_12 1 (sU (S1_12 1) 0 q23)) 1 3 0)), (w_X7 ad (0 + 202) cs en ((sU S1_12 1 (sU (S1_12 1) 0 q23)) 1 3 1))]) (Wc := [(w_X5 ad (0 + 1) cs (S1_12 1 0)), (w_X5 ad (0 + 29) cs (S1_12 1 1))]) (Wc' := [(w_X5 ad (0 + 1) cs q23), (w_X5 ad (0 + 29) cs (S1_12 1 1))]) (is := [1, 2]) (js := [0, 3, 4, 5, 6]) ⟨hx, hb, hml, hown, hts⟩ (k_X5_copy l dC dI cs ad (0 + 1) (0 + 29) H12.size (S1_12 1 0) (S1_12 1 1) q23 gq23) (cwV 1 hts gX10_settle_X5_copy rfl rfl rfl cd_X5_copy ⟨Nat.le_of_ble_eq_true rfl, Nat.le_of_ble_eq_true rfl⟩) hK hP hD hS hA ⟨rfl, rfl, rfl, rfl, rfl, rfl⟩ (jn_nd (is := [1, 2]) hD rfl rfl) 1 4 rfl rfl rfl rfl rfl hl.1 (Nat.le_of_ble_eq_true rfl) dX10_settle_23 (fun H23 locs23 hP' hD' hS' => ?_)
    replace hS := hS'
    have hP' : va_P (dC, dI) vwCl (fl [(w_X10 ad (0) cs en (sU S1_12 1 (sU (S1_12 1) 0 q23)))]) H23 := hP'
    have hD' : va_D A (fl [(w_X10 ad (0) cs en (sU S1_12 1 (sU (S1_12 1) 0 q23)))]) := hD'
    replace hR := bn_e hR
    obtain ⟨S1_23, eS1_23, hR⟩ := hR
    replace hP : va_P (dC, dI) vwCl (fl [(w_X10 ad (0) cs en S1_23)]) H23 := by rw [eS1_23]; exact hP'
    replace hD : va_D A (fl [(w_X10 ad (0) cs en S1_23)]) := by rw [eS1_23]; exact hD'
    clear hP' hD' hS'
    refine lv_iload_n hx hb dX10_settle_26 rfl (lv_at hl 1 rfl) ?_
    replace hR := Option.some.inj hR
    obtain ⟨e9, hR⟩ := Prod.mk.inj hR
    have eu1 := hR
    replace hP : va_P (dC, dI) vwCl (fl [(w_X10 ad (0) cs en u1)]) H23 := by rw [← eu1]; exact hP
    replace hD : va_D A (fl [(w_X10 ad (0) cs en u1)]) := by rw [← eu1]; exact hD
    exact W.iret hx hb hr (fun t ht hW => ⟨⟨_, (), rfl, e9, by rw [ht]; exact hP, va_K.moved hW.alike hK, hD⟩, hS.F ht⟩) hS.2.2 dX10_settle_27
