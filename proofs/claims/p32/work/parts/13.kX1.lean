set_option maxHeartbeats 8000000 in
set_option maxRecDepth 100000 in
theorem k_X3_record (l : Launch) (dC : Nat → ClassId) (dI : Nat → Nat → Nat) (cs : Nat → ClassId) (ad : Nat → Nat) (b1 b2 : Nat) (sz : Nat) (S1 : T4) (S2 : T3) (u1 : T4) (hR : fX3_record S1 S2 = some u1) : Met l yX3_record wsX3_record ({ frames := 3, cells := 0, slots := 0, locals := 72 } : Room) (va_Pc [.ref (ad b1), .ref (ad b2)] (pW dC dI (tyL cs) (fl [(w_X3 ad (b1) cs S1), (w_X5 ad (b2) cs S2)]) sz)) (QV dC dI (tyL cs) (va_A (fl [(w_X3 ad (b1) cs S1), (w_X5 ad (b2) cs S2)]) sz) (fl [(w_X3 ad (b1) cs u1), (w_X5 ad (b2) cs S2)])) 0 0 (va_A (fl [(w_X3 ad (b1) cs S1), (w_X5 ad (b2) cs S2)]) sz) := by
  refine mt_of (own := RX3) (cc := cX3_record) (maxL := 3) (ret := none) (Qc := fun A => QV dC dI (tyL cs) A (fl [(w_X3 ad (b1) cs u1), (w_X5 ad (b2) cs S2)])) rfl (by decide) rfl (Nat.le_of_ble_eq_true rfl) (fun p e s m below meth c A ls hsz hx hb hr hts hown hlocks hml hA hK hP hD hS hl => ?_)
  subst hsz
  have hl : lv_has ls 3 [(0, .ref (ad b1)), (1, .ref (ad b2))] := hl
  have hF10 := hts (.fieldLink RX3 10 "DockedBikes$History" "states" "[LDockedBikes$Road;") (List.mem_of_getElem? (i := 3) rfl)
  have hF16 := hts (.fieldLink RX3 16 "DockedBikes$History" "size" "I") (List.mem_of_getElem? (i := 1) rfl)
  have hF20 := hts (.fieldLink RX3 20 "DockedBikes$History" "oldest" "I") (List.mem_of_getElem? (i := 2) rfl)
  have hinX3 : ∀ w ∈ wsX30, w ∈ wsX3_record := by decide +kernel
  have hB30 : ∀ (S1_30h : T4) (H : Heap) (locs : List Loc) (ls : Array Slot), fX3_record_30 S2 S1_30h = some u1 → va_P (dC, dI) vwCl (fl [(w_X3 ad (b1) cs S1_30h), (w_X5 ad (b2) cs S2)]) H → va_D A (fl [(w_X3 ad (b1) cs S1_30h), (w_X5 ad (b2) cs S2)]) → va_S A s.heap H locs → lv_has ls 3 [(0, .ref (ad b1)), (1, .ref (ad b2))] → W p l e (headSpec wsX3_record ({ frames := 3, cells := 0, slots := 0, locals := 72 } : Room)).room s m ([.ref (ad b1), .ref (ad b2)] : List Value).toArray below meth c H locs 0 0 (MQ below (QV dC dI (tyL cs) A (fl [(w_X3 ad (b1) cs u1), (w_X5 ad (b2) cs S2)])) ([.ref (ad b1), .ref (ad b2)] : List Value).toArray s 0 0 A) (F0 m 30 ls []) := by
    intro S1_30h H locs ls hR hP hD hS hl
    refine lv_aload_n hx hb dX3_record_30 rfl (lv_at hl 0 rfl) ?_
    refine va_get (D := (dC, dI)) (ci := 2) (v := .ref (ad (b1 + 1))) (C := RX3) (T := TX3) (N := 3) hx hb hts hinX3 hown hK hP 0 rfl rfl 1 (by decide) hF10 (fun _ h9 => h9) rfl dX3_record_31 ?_
    refine lv_aload_n hx hb dX3_record_34 rfl (lv_at hl 0 rfl) ?_
    refine va_get (D := (dC, dI)) (ci := 2) (v := .int (S1_30h 4 0 0 1)) (C := RX3) (T := TX3) (N := 3) hx hb hts hinX3 hown hK hP 0 rfl rfl 2 (by decide) hF20 (fun _ h9 => h9) rfl dX3_record_35 ?_
    refine lv_aload_n hx hb dX3_record_38 rfl (lv_at hl 0 rfl) ?_
    refine va_get (D := (dC, dI)) (ci := 2) (v := .int (S1_30h 4 0 0 0)) (C := RX3) (T := TX3) (N := 3) hx hb hts hinX3 hown hK hP 0 rfl rfl 0 (by decide) hF16 (fun _ h9 => h9) rfl dX3_record_39 ?_
    refine lv_iadd hx hb dX3_record_42 ?_
    refine lv_iconst (v := 4) hx hb dX3_record_43 ic_4 ?_
    refine lv_irem hx hb dX3_record_44 (by decide) ?_
    replace hR := gi_e hR
    obtain ⟨i45, hR⟩ := hR
    refine va_aldq hx hb hK hP 1 2 rfl rfl i45 dX3_record_45 ?_
    by_cases c45_0 : (((S1_30h 4 0 0 1) + (S1_30h 4 0 0 0)) - ((S1_30h 4 0 0 1) + (S1_30h 4 0 0 0)) / 4 * 4).toNatClampNeg = 0
    · replace hR := it_t hR c45_0
      rw [c45_0]
      refine lv_astore_n (lv' := [(2, .ref (ad (b1 + 2))), (0, .ref (ad b1)), (1, .ref (ad b2))]) hx hb dX3_record_46 rfl hl (Nat.le_of_ble_eq_true rfl) rfl (fun ls hl => ?_)
      refine lv_aload_n hx hb dX3_record_47 rfl (lv_at hl 0 rfl) ?_
      refine lv_ifnull hx hb dX3_record_48 ?_
      refine lv_aload_n hx hb dX3_record_51 rfl (lv_at hl 0 rfl) ?_
      refine lv_aload_n hx hb dX3_record_52 rfl (lv_at hl 2 rfl) ?_
      replace hR := bd_e hR
      obtain ⟨q53, gq53, hR⟩ := hR
      replace hP : va_P (dC, dI) vwCl (fl [[((ad b1), .inr (2, [.int (S1_30h 4 0 0 0), .ref (ad (b1 + 1)), .int (S1_30h 4 0 0 1)]))], [((ad (b1 + 1)), .inl (cs 2, 4, .inr (.inr (.inr (.inr (fun k => some (ad (b1 + 2 + 28 * k))))))))], (w_X5 ad (b1 + 2) cs (S1_30h 0)), (w_X5 ad (b1 + 30) cs (S1_30h 1)), (w_X5 ad (b1 + 58) cs (S1_30h 2)), (w_X5 ad (b1 + 86) cs (S1_30h 3)), (w_X5 ad (b2) cs S2)]) H := hP
      replace hD : va_D A (fl [[((ad b1), .inr (2, [.int (S1_30h 4 0 0 0), .ref (ad (b1 + 1)), .int (S1_30h 4 0 0 1)]))], [((ad (b1 + 1)), .inl (cs 2, 4, .inr (.inr (.inr (.inr (fun k => some (ad (b1 + 2 + 28 * k))))))))], (w_X5 ad (b1 + 2) cs (S1_30h 0)), (w_X5 ad (b1 + 30) cs (S1_30h 1)), (w_X5 ad (b1 + 58) cs (S1_30h 2)), (w_X5 ad (b1 + 86) cs (S1_30h 3)), (w_X5 ad (b2) cs S2)]) := hD
      refine cl_Vv (As := [.ref (ad b2)]) (rest := []) (L := [[((ad b1), .inr (2, [.int (S1_30h 4 0 0 0), .ref (ad (b1 + 1)), .int (S1_30h 4 0 0 1)]))], [((ad (b1 + 1)), .inl (cs 2, 4, .inr (.inr (.inr (.inr (fun k => some (ad (b1 + 2 + 28 * k))))))))], (w_X5 ad (b1 + 2) cs (S1_30h 0)), (w_X5 ad (b1 + 30) cs (S1_30h 1)), (w_X5 ad (b1 + 58) cs (S1_30h 2)), (w_X5 ad (b1 + 86) cs (S1_30h 3)), (w_X5 ad (b2) cs S2)]) (L' := [[((ad b1), .inr (2, [.int ((sU S1_30h 0 q53) 4 0 0 0), .ref (ad (b1 + 1)), .int ((sU S1_30h 0 q53) 4 0 0 1)]))], [((ad (b1 + 1)), .inl (cs 2, 4, .inr (.inr (.inr (.inr (fun k => some (ad (b1 + 2 + 28 * k))))))))], (w_X5 ad (b1 + 2) cs ((sU S1_30h 0 q53) 0)), (w_X5 ad (b1 + 30) cs ((sU S1_30h 0 q53) 1)), (w_X5 ad (b1 + 58) cs ((sU S1_30h 0 q53) 2)), (w_X5 ad (b1 + 86) cs ((sU S1_30h 0 q53) 3)), (w_X5 ad (b2) cs S2)]) (Wc := [(w_X5 ad (b1 + 2) cs (S1_30h 0)), (w_X5 ad (b2) cs S2)]) (Wc' := [(w_X5 ad (b1 + 2) cs q53), (w_X5 ad (b2) cs S2)]) (is := [2, 6]) (js := [0, 1, 3, 4, 5]) ⟨hx, hb, hml, hown, hts⟩ (k_X5_copy l dC dI cs ad (b1 + 2) (b2) H.size (S1_30h 0) S2 q53 gq53) (cwV 1 hts gX3_record_X5_copy rfl rfl rfl cd_X5_copy ⟨Nat.le_of_ble_eq_true rfl, Nat.le_of_ble_eq_true rfl⟩) hK hP hD hS hA ⟨rfl, rfl, rfl, rfl, rfl, rfl⟩ (jn_nd (is := [2, 6]) hD rfl rfl) 2 4 rfl rfl rfl rfl rfl hl.1 (Nat.le_of_ble_eq_true rfl) dX3_record_53 (fun H53 locs53 hP' hD' hS' => ?_)
      replace hS := hS'
      have hP' : va_P (dC, dI) vwCl (fl [(w_X3 ad (b1) cs (sU S1_30h 0 q53)), (w_X5 ad (b2) cs S2)]) H53 := hP'
      have hD' : va_D A (fl [(w_X3 ad (b1) cs (sU S1_30h 0 q53)), (w_X5 ad (b2) cs S2)]) := hD'
      replace hR := bn_e hR
      obtain ⟨S1_53, eS1_53, hR⟩ := hR
      replace hP : va_P (dC, dI) vwCl (fl [(w_X3 ad (b1) cs S1_53), (w_X5 ad (b2) cs S2)]) H53 := by rw [eS1_53]; exact hP'
      replace hD : va_D A (fl [(w_X3 ad (b1) cs S1_53), (w_X5 ad (b2) cs S2)]) := by rw [eS1_53]; exact hD'
      clear hP' hD' hS'
      refine lv_aload_n hx hb dX3_record_56 rfl (lv_at hl 1 rfl) ?_
      refine lv_dup hx hb dX3_record_57 rfl ?_
      refine va_get (D := (dC, dI)) (ci := 2) (v := .int (S1_53 4 0 0 0)) (C := RX3) (T := TX3) (N := 3) hx hb hts hinX3 hown hK hP 0 rfl rfl 0 (by decide) hF16 (fun _ h9 => h9) rfl dX3_record_58 ?_
      refine lv_iconst (v := 1) hx hb dX3_record_61 ic_1 ?_
      refine lv_iadd hx hb dX3_record_62 ?_
      refine va_put (D := (dC, dI)) (ci := 2) (v := .int ((S1_53 4 0 0 0) + 1)) (ty := .int) (C := RX3) (T := TX3) (N := 3) hx hb hts hinX3 tyX3 tyX3_ok nmX3 hown hK hP hD hS 0 rfl rfl 0 (by decide) hF16 (fun _ h9 => h9) rfl (by decide +kernel) rfl rfl (Nat.le_of_ble_eq_true rfl) dX3_record_63 (fun H63 locs63 hP' hD' hS' => ?_)
      replace hS := hS'
      have hP' : va_P (dC, dI) vwCl (fl [(w_X3 ad (b1) cs (sU S1_53 4 (sU (S1_53 4) 0 (sU ((S1_53 4) 0) 0 (sU (((S1_53 4) 0) 0) 0 ((S1_53 4 0 0 0) + 1)))))), (w_X5 ad (b2) cs S2)]) H63 := hP'
      have hD' : va_D A (fl [(w_X3 ad (b1) cs (sU S1_53 4 (sU (S1_53 4) 0 (sU ((S1_53 4) 0) 0 (sU (((S1_53 4) 0) 0) 0 ((S1_53 4 0 0 0) + 1)))))), (w_X5 ad (b2) cs S2)]) := hD'
      replace hR := bn_e hR
      obtain ⟨S1_63, eS1_63, hR⟩ := hR
      replace hP : va_P (dC, dI) vwCl (fl [(w_X3 ad (b1) cs S1_63), (w_X5 ad (b2) cs S2)]) H63 := by rw [eS1_63]; exact hP'
      replace hD : va_D A (fl [(w_X3 ad (b1) cs S1_63), (w_X5 ad (b2) cs S2)]) := by rw [eS1_63]; exact hD'
      clear hP' hD' hS'
      replace hR := Option.some.inj hR
      have eu1 := hR
      replace hP : va_P (dC, dI) vwCl (fl [(w_X3 ad (b1) cs u1), (w_X5 ad (b2) cs S2)]) H63 := by rw [← eu1]; exact hP
      replace hD : va_D A (fl [(w_X3 ad (b1) cs u1), (w_X5 ad (b2) cs S2)]) := by rw [← eu1]; exact hD
      exact W.vret hx hb hr (fun t ht hW => ⟨⟨(), rfl, trivial, by rw [ht]; exact hP, va_K.moved hW.alike hK, hD⟩, hS.F ht⟩) hS.2.2 dX3_record_66
    · replace hR := it_f hR c45_0
      by_cases c45_1 : (((S1_30h 4 0 0 1) + (S1_30h 4 0 0 0)) - ((S1_30h 4 0 0 1) + (S1_30h 4 0 0 0)) / 4 * 4).toNatClampNeg = 1
      · replace hR := it_t hR c45_1
        rw [c45_1]
        refine lv_astore_n (lv' := [(2, .ref (ad (b1 + 30))), (0, .ref (ad b1)), (1, .ref (ad b2))]) hx hb dX3_record_46 rfl hl (Nat.le_of_ble_eq_true rfl) rfl (fun ls hl => ?_)
        refine lv_aload_n hx hb dX3_record_47 rfl (lv_at hl 0 rfl) ?_
        refine lv_ifnull hx hb dX3_record_48 ?_
        refine lv_aload_n hx hb dX3_record_51 rfl (lv_at hl 0 rfl) ?_
        refine lv_aload_n hx hb dX3_record_52 rfl (lv_at hl 2 rfl) ?_
        replace hR := bd_e hR
        obtain ⟨q53, gq53, hR⟩ := hR
        replace hP : va_P (dC, dI) vwCl (fl [[((ad b1), .inr (2, [.int (S1_30h 4 0 0 0), .ref (ad (b1 + 1)), .int (S1_30h 4 0 0 1)]))], [((ad (b1 + 1)), .inl (cs 2, 4, .inr (.inr (.inr (.inr (fun k => some (ad (b1 + 2 + 28 * k))))))))], (w_X5 ad (b1 + 2) cs (S1_30h 0)), (w_X5 ad (b1 + 30) cs (S1_30h 1)), (w_X5 ad (b1 + 58) cs (S1_30h 2)), (w_X5 ad (b1 + 86) cs (S1_30h 3)), (w_X5 ad (b2) cs S2)]) H := hP
        replace hD : va_D A (fl [[((ad b1), .inr (2, [.int (S1_30h 4 0 0 0), .ref (ad (b1 + 1)), .int (S1_30h 4 0 0 1)]))], [((ad (b1 + 1)), .inl (cs 2, 4, .inr (.inr (.inr (.inr (fun k => some (ad (b1 + 2 + 28 * k))))))))], (w_X5 ad (b1 + 2) cs (S1_30h 0)), (w_X5 ad (b1 + 30) cs (S1_30h 1)), (w_X5 ad (b1 + 58) cs (S1_30h 2)), (w_X5 ad (b1 + 86) cs (S1_30h 3)), (w_X5 ad (b2) cs S2)]) := hD
        refine cl_Vv (As := [.ref (ad b2)]) (rest := []) (L := [[((ad b1), .inr (2, [.int (S1_30h 4 0 0 0), .ref (ad (b1 + 1)), .int (S1_30h 4 0 0 1)]))], [((ad (b1 + 1)), .inl (cs 2, 4, .inr (.inr (.inr (.inr (fun k => some (ad (b1 + 2 + 28 * k))))))))], (w_X5 ad (b1 + 2) cs (S1_30h 0)), (w_X5 ad (b1 + 30) cs (S1_30h 1)), (w_X5 ad (b1 + 58) cs (S1_30h 2)), (w_X5 ad (b1 + 86) cs (S1_30h 3)), (w_X5 ad (b2) cs S2)]) (L' := [[((ad b1), .inr (2, [.int ((sU S1_30h 1 q53) 4 0 0 0), .ref (ad (b1 + 1)), .int ((sU S1_30h 1 q53) 4 0 0 1)]))], [((ad (b1 + 1)), .inl (cs 2, 4, .inr (.inr (.inr (.inr (fun k => some (ad (b1 + 2 + 28 * k))))))))], (w_X5 ad (b1 + 2) cs ((sU S1_30h 1 q53) 0)), (w_X5 ad (b1 + 30) cs ((sU S1_30h 1 q53) 1)), (w_X5 ad (b1 + 58) cs ((sU S1_30h 1 q53) 2)), (w_X5 ad (b1 + 86) cs ((sU S1_30h 1 q53) 3)), (w_X5 ad (b2) cs S2)]) (Wc := [(w_X5 ad (b1 + 30) cs (S1_30h 1)), (w_X5 ad (b2) cs S2)]) (Wc' := [(w_X5 ad (b1 + 30) cs q53), (w_X5 ad (b2) cs S2)]) (is := [3, 6]) (js := [0, 1, 2, 4, 5]) ⟨hx, hb, hml, hown, hts⟩ (k_X5_copy l dC dI cs ad (b1 + 30) (b2) H.size (S1_30h 1) S2 q53 gq53) (cwV 1 hts gX3_record_X5_copy rfl rfl rfl cd_X5_copy ⟨Nat.le_of_ble_eq_true rfl, Nat.le_of_ble_eq_true rfl⟩) hK hP hD hS hA ⟨rfl, rfl, rfl, rfl, rfl, rfl⟩ (jn_nd (is := [3, 6]) hD rfl rfl) 30 4 rfl rfl rfl rfl rfl hl.1 (Nat.le_of_ble_eq_true rfl) dX3_record_53 (fun H53 locs53 hP' hD' hS' => ?_)
        replace hS := hS'
        have hP' : va_P (dC, dI) vwCl (fl [(w_X3 ad (b1) cs (sU S1_30h 1 q53)), (w_X5 ad (b2) cs S2)]) H53 := hP'
        have hD' : va_D A (fl [(w_X3 ad (b1) cs (sU S1_30h 1 q53)), (w_X5 ad (b2) cs S2)]) := hD'
        replace hR := bn_e hR
        obtain ⟨S1_53, eS1_53, hR⟩ := hR
        replace hP : va_P (dC, dI) vwCl (fl [(w_X3 ad (b1) cs S1_53), (w_X5 ad (b2) cs S2)]) H53 := by rw [eS1_53]; exact hP'
        replace hD : va_D A (fl [(w_X3 ad (b1) cs S1_53), (w_X5 ad (b2) cs S2)]) := by rw [eS1_53]; exact hD'
        clear hP' hD' hS'
        refine lv_aload_n hx hb dX3_record_56 rfl (lv_at hl 1 rfl) ?_
        refine lv_dup hx hb dX3_record_57 rfl ?_
        refine va_get (D := (dC, dI)) (ci := 2) (v := .int (S1_53 4 0 0 0)) (C := RX3) (T := TX3) (N := 3) hx hb hts hinX3 hown hK hP 0 rfl rfl 0 (by decide) hF16 (fun _ h9 => h9) rfl dX3_record_58 ?_
        refine lv_iconst (v := 1) hx hb dX3_record_61 ic_1 ?_
        refine lv_iadd hx hb dX3_record_62 ?_
        refine va_put (D := (dC, dI)) (ci := 2) (v := .int ((S1_53 4 0 0 0) + 1)) (ty := .int) (C := RX3) (T := TX3) (N := 3) hx hb hts hinX3 tyX3 tyX3_ok nmX3 hown hK hP hD hS 0 rfl rfl 0 (by decide) hF16 (fun _ h9 => h9) rfl (by decide +kernel) rfl rfl (Nat.le_of_ble_eq_true rfl) dX3_record_63 (fun H63 locs63 hP' hD' hS' => ?_)
        replace hS := hS'
        have hP' : va_P (dC, dI) vwCl (fl [(w_X3 ad (b1) cs (sU S1_53 4 (sU (S1_53 4) 0 (sU ((S1_53 4) 0) 0 (sU (((S1_53 4) 0) 0) 0 ((S1_53 4 0 0 0) + 1)))))), (w_X5 ad (b2) cs S2)]) H63 := hP'
        have hD' : va_D A (fl [(w_X3 ad (b1) cs (sU S1_53 4 (sU (S1_53 4) 0 (sU ((S1_53 4) 0) 0 (sU (((S1_53 4) 0) 0) 0 ((S1_53 4 0 0 0) + 1)))))), (w_X5 ad (b2) cs S2)]) := hD'
        replace hR := bn_e hR
        obtain ⟨S1_63, eS1_63, hR⟩ := hR
        replace hP : va_P (dC, dI) vwCl (fl [(w_X3 ad (b1) cs S1_63), (w_X5 ad (b2) cs S2)]) H63 := by rw [eS1_63]; exact hP'
        replace hD : va_D A (fl [(w_X3 ad (b1) cs S1_63), (w_X5 ad (b2) cs S2)]) := by rw [eS1_63]; exact hD'
        clear hP' hD' hS'
        replace hR := Option.some.inj hR
        have eu1 := hR
        replace hP : va_P (dC, dI) vwCl (fl [(w_X3 ad (b1) cs u1), (w_X5 ad (b2) cs S2)]) H63 := by rw [← eu1]; exact hP
        replace hD : va_D A (fl [(w_X3 ad (b1) cs u1), (w_X5 ad (b2) cs S2)]) := by rw [← eu1]; exact hD
        exact W.vret hx hb hr (fun t ht hW => ⟨⟨(), rfl, trivial, by rw [ht]; exact hP, va_K.moved hW.alike hK, hD⟩, hS.F ht⟩) hS.2.2 dX3_record_66
      · replace hR := it_f hR c45_1
        by_cases c45_2 : (((S1_30h 4 0 0 1) + (S1_30h 4 0 0 0)) - ((S1_30h 4 0 0 1) + (S1_30h 4 0 0 0)) / 4 * 4).toNatClampNeg = 2
        · replace hR := it_t hR c45_2
          rw [c45_2]
          refine lv_astore_n (lv' := [(2, .ref (ad (b1 + 58))), (0, .ref (ad b1)), (1, .ref (ad b2))]) hx hb dX3_record_46 rfl hl (Nat.le_of_ble_eq_true rfl) rfl (fun ls hl => ?_)
          refine lv_aload_n hx hb dX3_record_47 rfl (lv_at hl 0 rfl) ?_
          refine lv_ifnull hx hb dX3_record_48 ?_
          refine lv_aload_n hx hb dX3_record_51 rfl (lv_at hl 0 rfl) ?_
          refine lv_aload_n hx hb dX3_record_52 rfl (lv_at hl 2 rfl) ?_
          replace hR := bd_e hR
          obtain ⟨q53, gq53, hR⟩ := hR
          replace hP : va_P (dC, dI) vwCl (fl [[((ad b1), .inr (2, [.int (S1_30h 4 0 0 0), .ref (ad (b1 + 1)), .int (S1_30h 4 0 0 1)]))], [((ad (b1 + 1)), .inl (cs 2, 4, .inr (.inr (.inr (.inr (fun k => some (ad (b1 + 2 + 28 * k))))))))], (w_X5 ad (b1 + 2) cs (S1_30h 0)), (w_X5 ad (b1 + 30) cs (S1_30h 1)), (w_X5 ad (b1 + 58) cs (S1_30h 2)), (w_X5 ad (b1 + 86) cs (S1_30h 3)), (w_X5 ad (b2) cs S2)]) H := hP
          replace hD : va_D A (fl [[((ad b1), .inr (2, [.int (S1_30h 4 0 0 0), .ref (ad (b1 + 1)), .int (S1_30h 4 0 0 1)]))], [((ad (b1 + 1)), .inl (cs 2, 4, .inr (.inr (.inr (.inr (fun k => some (ad (b1 + 2 + 28 * k))))))))], (w_X5 ad (b1 + 2) cs (S1_30h 0)), (w_X5 ad (b1 + 30) cs (S1_30h 1)), (w_X5 ad (b1 + 58) cs (S1_30h 2)), (w_X5 ad (b1 + 86) cs (S1_30h 3)), (w_X5 ad (b2) cs S2)]) := hD
          refine cl_Vv (As := [.ref (ad b2)]) (rest := []) (L := [[((ad b1), .inr (2, [.int (S1_30h 4 0 0 0), .ref (ad (b1 + 1)), .int (S1_30h 4 0 0 1)]))], [((ad (b1 + 1)), .inl (cs 2, 4, .inr (.inr (.inr (.inr (fun k => some (ad (b1 + 2 + 28 * k))))))))], (w_X5 ad (b1 + 2) cs (S1_30h 0)), (w_X5 ad (b1 + 30) cs (S1_30h 1)), (w_X5 ad (b1 + 58) cs (S1_30h 2)), (w_X5 ad (b1 + 86) cs (S1_30h 3)), (w_X5 ad (b2) cs S2)]) (L' := [[((ad b1), .inr (2, [.int ((sU S1_30h 2 q53) 4 0 0 0), .ref (ad (b1 + 1)), .int ((sU S1_30h 2 q53) 4 0 0 1)]))], [((ad (b1 + 1)), .inl (cs 2, 4, .inr (.inr (.inr (.inr (fun k => some (ad (b1 + 2 + 28 * k))))))))], (w_X5 ad (b1 + 2) cs ((sU S1_30h 2 q53) 0)), (w_X5 ad (b1 + 30) cs ((sU S1_30h 2 q53) 1)), (w_X5 ad (b1 + 58) cs ((sU S1_30h 2 q53) 2)), (w_X5 ad (b1 + 86) cs ((sU S1_30h 2 q53) 3)), (w_X5 ad (b2) cs S2)]) (Wc := [(w_X5 ad (b1 + 58) cs (S1_30h 2)), (w_X5 ad (b2) cs S2)]) (Wc' := [(w_X5 ad (b1 + 58) cs q53), (w_X5 ad (b2) cs S2)]) (is := [4, 6]) (js := [0, 1, 2, 3, 5]) ⟨hx, hb, hml, hown, hts⟩ (k_X5_copy l dC dI cs ad (b1 + 58) (b2) H.size (S1_30h 2) S2 q53 gq53) (cwV 1 hts gX3_record_X5_copy rfl rfl rfl cd_X5_copy ⟨Nat.le_of_ble_eq_true rfl, Nat.le_of_ble_eq_true rfl⟩) hK hP hD hS hA ⟨rfl, rfl, rfl, rfl, rfl, rfl⟩ (jn_nd (is := [4, 6]) hD rfl rfl) 58 4 rfl rfl rfl rfl rfl hl.1 (Nat.le_of_ble_eq_true rfl) dX3_record_53 (fun H53 locs53 hP' hD' hS' => ?_)
          replace hS := hS'
          have hP' : va_P (dC, dI) vwCl (fl [(w_X3 ad (b1) cs (sU S1_30h 2 q53)), (w_X5 ad (b2) cs S2)]) H53 := hP'
          have hD' : va_D A (fl [(w_X3 ad (b1) cs (sU S1_30h 2 q53)), (w_X5 ad (b2) cs S2)]) := hD'
          replace hR := bn_e hR
          obtain ⟨S1_53, eS1_53, hR⟩ := hR
          replace hP : va_P (dC, dI) vwCl (fl [(w_X3 ad (b1) cs S1_53), (w_X5 ad (b2) cs S2)]) H53 := by rw [eS1_53]; exact hP'
          replace hD : va_D A (fl [(w_X3 ad (b1) cs S1_53), (w_X5 ad (b2) cs S2)]) := by rw [eS1_53]; exact hD'
          clear hP' hD' hS'
          refine lv_aload_n hx hb dX3_record_56 rfl (lv_at hl 1 rfl) ?_
          refine lv_dup hx hb dX3_record_57 rfl ?_
          refine va_get (D := (dC, dI)) (ci := 2) (v := .int (S1_53 4 0 0 0)) (C := RX3) (T := TX3) (N := 3) hx hb hts hinX3 hown hK hP 0 rfl rfl 0 (by decide) hF16 (fun _ h9 => h9) rfl dX3_record_58 ?_
          refine lv_iconst (v := 1) hx hb dX3_record_61 ic_1 ?_
          refine lv_iadd hx hb dX3_record_62 ?_
          refine va_put (D := (dC, dI)) (ci := 2) (v := .int ((S1_53 4 0 0 0) + 1)) (ty := .int) (C := RX3) (T := TX3) (N := 3) hx hb hts hinX3 tyX3 tyX3_ok nmX3 hown hK hP hD hS 0 rfl rfl 0 (by decide) hF16 (fun _ h9 => h9) rfl (by decide +kernel) rfl rfl (Nat.le_of_ble_eq_true rfl) dX3_record_63 (fun H63 locs63 hP' hD' hS' => ?_)
          replace hS := hS'
          have hP' : va_P (dC, dI) vwCl (fl [(w_X3 ad (b1) cs (sU S1_53 4 (sU (S1_53 4) 0 (sU ((S1_53 4) 0) 0 (sU (((S1_53 4) 0) 0) 0 ((S1_53 4 0 0 0) + 1)))))), (w_X5 ad (b2) cs S2)]) H63 := hP'
          have hD' : va_D A (fl [(w_X3 ad (b1) cs (sU S1_53 4 (sU (S1_53 4) 0 (sU ((S1_53 4) 0) 0 (sU (((S1_53 4) 0) 0) 0 ((S1_53 4 0 0 0) + 1)))))), (w_X5 ad (b2) cs S2)]) := hD'
          replace hR := bn_e hR
          obtain ⟨S1_63, eS1_63, hR⟩ := hR
          replace hP : va_P (dC, dI) vwCl (fl [(w_X3 ad (b1) cs S1_63), (w_X5 ad (b2) cs S2)]) H63 := by rw [eS1_63]; exact hP'
          replace hD : va_D A (fl [(w_X3 ad (b1) cs S1_63), (w_X5 ad (b2) cs S2)]) := by rw [eS1_63]; exact hD'
          clear hP' hD' hS'
          replace hR := Option.some.inj hR
          have eu1 := hR
          replace hP : va_P (dC, dI) vwCl (fl [(w_X3 ad (b1) cs u1), (w_X5 ad (b2) cs S2)]) H63 := by rw [← eu1]; exact hP
          replace hD : va_D A (fl [(w_X3 ad (b1) cs u1), (w_X5 ad (b2) cs S2)]) := by rw [← eu1]; exact hD
          exact W.vret hx hb hr (fun t ht hW => ⟨⟨(), rfl, trivial, by rw [ht]; exact hP, va_K.moved hW.alike hK, hD⟩, hS.F ht⟩) hS.2.2 dX3_record_66
        · replace hR := it_f hR c45_2
          have c45_3 : (((S1_30h 4 0 0 1) + (S1_30h 4 0 0 0)) - ((S1_30h 4 0 0 1) + (S1_30h 4 0 0 0)) / 4 * 4).toNatClampNeg = 3 := by have h9 := vp_lt i45; omega
          rw [c45_3]
          refine lv_astore_n (lv' := [(2, .ref (ad (b1 + 86))), (0, .ref (ad b1)), (1, .ref (ad b2))]) hx hb dX3_record_46 rfl hl (Nat.le_of_ble_eq_true rfl) rfl (fun ls hl => ?_)
          refine lv_aload_n hx hb dX3_record_47 rfl (lv_at hl 0 rfl) ?_
          refine lv_ifnull hx hb dX3_record_48 ?_
          refine lv_aload_n hx hb dX3_record_51 rfl (lv_at hl 0 rfl) ?_
          refine lv_aload_n hx hb dX3_record_52 rfl (lv_at hl 2 rfl) ?_
          replace hR := bd_e hR
          obtain ⟨q53, gq53, hR⟩ := hR
          replace hP : va_P (dC, dI) vwCl (fl [[((ad b1), .inr (2, [.int (S1_30h 4 0 0 0), .ref (ad (b1 + 1)), .int (S1_30h 4 0 0 1)]))], [((ad (b1 + 1)), .inl (cs 2, 4, .inr (.inr (.inr (.inr (fun k => some (ad (b1 + 2 + 28 * k))))))))], (w_X5 ad (b1 + 2) cs (S1_30h 0)), (w_X5 ad (b1 + 30) cs (S1_30h 1)), (w_X5 ad (b1 + 58) cs (S1_30h 2)), (w_X5 ad (b1 + 86) cs (S1_30h 3)), (w_X5 ad (b2) cs S2)]) H := hP
          replace hD : va_D A (fl [[((ad b1), .inr (2, [.int (S1_30h 4 0 0 0), .ref (ad (b1 + 1)), .int (S1_30h 4 0 0 1)]))], [((ad (b1 + 1)), .inl (cs 2, 4, .inr (.inr (.inr (.inr (fun k => some (ad (b1 + 2 + 28 * k))))))))], (w_X5 ad (b1 + 2) cs (S1_30h 0)), (w_X5 ad (b1 + 30) cs (S1_30h 1)), (w_X5 ad (b1 + 58) cs (S1_30h 2)), (w_X5 ad (b1 + 86) cs (S1_30h 3)), (w_X5 ad (b2) cs S2)]) := hD
          refine cl_Vv (As := [.ref (ad b2)]) (rest := []) (L := [[((ad b1), .inr (2, [.int (S1_30h 4 0 0 0), .ref (ad (b1 + 1)), .int (S1_30h 4 0 0 1)]))], [((ad (b1 + 1)), .inl (cs 2, 4, .inr (.inr (.inr (.inr (fun k => some (ad (b1 + 2 + 28 * k))))))))], (w_X5 ad (b1 + 2) cs (S1_30h 0)), (w_X5 ad (b1 + 30) cs (S1_30h 1)), (w_X5 ad (b1 + 58) cs (S1_30h 2)), (w_X5 ad (b1 + 86) cs (S1_30h 3)), (w_X5 ad (b2) cs S2)]) (L' := [[((ad b1), .inr (2, [.int ((sU S1_30h 3 q53) 4 0 0 0), .ref (ad (b1 + 1)), .int ((sU S1_30h 3 q53) 4 0 0 1)]))], [((ad (b1 + 1)), .inl (cs 2, 4, .inr (.inr (.inr (.inr (fun k => some (ad (b1 + 2 + 28 * k))))))))], (w_X5 ad (b1 + 2) cs ((sU S1_30h 3 q53) 0)), (w_X5 ad (b1 + 30) cs ((sU S1_30h 3 q53) 1)), (w_X5 ad (b1 + 58) cs ((sU S1_30h 3 q53) 2)), (w_X5 ad (b1 + 86) cs ((sU S1_30h 3 q53) 3)), (w_X5 ad (b2) cs S2)]) (Wc := [(w_X5 ad (b1 + 86) cs (S1_30h 3)), (w_X5 ad (b2) cs S2)]) (Wc' := [(w_X5 ad (b1 + 86) cs q53), (w_X5 ad (b2) cs S2)]) (is := [5, 6]) (js := [0, 1, 2, 3, 4]) ⟨hx, hb, hml, hown, hts⟩ (k_X5_copy l dC dI cs ad (b1 + 86) (b2) H.size (S1_30h 3) S2 q53 gq53) (cwV 1 hts gX3_record_X5_copy rfl rfl rfl cd_X5_copy ⟨Nat.le_of_ble_eq_true rfl, Nat.le_of_ble_eq_true rfl⟩) hK hP hD hS hA ⟨rfl, rfl, rfl, rfl, rfl, rfl⟩ (jn_nd (is := [5, 6]) hD rfl rfl) 86 4 rfl rfl rfl rfl rfl hl.1 (Nat.le_of_ble_eq_true rfl) dX3_record_53 (fun H53 locs53 hP' hD' hS' => ?_)
          replace hS := hS'
          have hP' : va_P (dC, dI) vwCl (fl [(w_X3 ad (b1) cs (sU S1_30h 3 q53)), (w_X5 ad (b2) cs S2)]) H53 := hP'
          have hD' : va_D A (fl [(w_X3 ad (b1) cs (sU S1_30h 3 q53)), (w_X5 ad (b2) cs S2)]) := hD'
          replace hR := bn_e hR
          obtain ⟨S1_53, eS1_53, hR⟩ := hR
          replace hP : va_P (dC, dI) vwCl (fl [(w_X3 ad (b1) cs S1_53), (w_X5 ad (b2) cs S2)]) H53 := by rw [eS1_53]; exact hP'
          replace hD : va_D A (fl [(w_X3 ad (b1) cs S1_53), (w_X5 ad (b2) cs S2)]) := by rw [eS1_53]; exact hD'
          clear hP' hD' hS'
          refine lv_aload_n hx hb dX3_record_56 rfl (lv_at hl 1 rfl) ?_
          refine lv_dup hx hb dX3_record_57 rfl ?_
          refine va_get (D := (dC, dI)) (ci := 2) (v := .int (S1_53 4 0 0 0)) (C := RX3) (T := TX3) (N := 3) hx hb hts hinX3 hown hK hP 0 rfl rfl 0 (by decide) hF16 (fun _ h9 => h9) rfl dX3_record_58 ?_
          refine lv_iconst (v := 1) hx hb dX3_record_61 ic_1 ?_
          refine lv_iadd hx hb dX3_record_62 ?_
          refine va_put (D := (dC, dI)) (ci := 2) (v := .int ((S1_53 4 0 0 0) + 1)) (ty := .int) (C := RX3) (T := TX3) (N := 3) hx hb hts hinX3 tyX3 tyX3_ok nmX3 hown hK hP hD hS 0 rfl rfl 0 (by decide) hF16 (fun _ h9 => h9) rfl (by decide +kernel) rfl rfl (Nat.le_of_ble_eq_true rfl) dX3_record_63 (fun H63 locs63 hP' hD' hS' => ?_)
          replace hS := hS'
          have hP' : va_P (dC, dI) vwCl (fl [(w_X3 ad (b1) cs (sU S1_53 4 (sU (S1_53 4) 0 (sU ((S1_53 4) 0) 0 (sU (((S1_53 4) 0) 0) 0 ((S1_53 4 0 0 0) + 1)))))), (w_X5 ad (b2) cs S2)]) H63 := hP'
          have hD' : va_D A (fl [(w_X3 ad (b1) cs (sU S1_53 4 (sU (S1_53 4) 0 (sU ((S1_53 4) 0) 0 (sU (((S1_53 4) 0) 0) 0 ((S1_53 4 0 0 0) + 1)))))), (w_X5 ad (b2) cs S2)]) := hD'
          replace hR := bn_e hR
          obtain ⟨S1_63, eS1_63, hR⟩ := hR
          replace hP : va_P (dC, dI) vwCl (fl [(w_X3 ad (b1) cs S1_63), (w_X5 ad (b2) cs S2)]) H63 := by rw [eS1_63]; exact hP'
          replace hD : va_D A (fl [(w_X3 ad (b1) cs S1_63), (w_X5 ad (b2) cs S2)]) := by rw [eS1_63]; exact hD'
          clear hP' hD' hS'
          replace hR := Option.some.inj hR
          have eu1 := hR
          replace hP : va_P (dC, dI) vwCl (fl [(w_X3 ad (b1) cs u1), (w_X5 ad (b2) cs S2)]) H63 := by rw [← eu1]; exact hP
          replace hD : va_D A (fl [(w_X3 ad (b1) cs u1), (w_X5 ad (b2) cs S2)]) := by rw [← eu1]; exact hD
          exact W.vret hx hb hr (fun t ht hW => ⟨⟨(), rfl, trivial, by rw [ht]; exact hP, va_K.moved hW.alike hK, hD⟩, hS.F ht⟩) hS.2.2 dX3_record_66
  refine lv_aload_n hx hb dX3_record_0 rfl (lv_at hl 0 rfl) ?_
  refine va_get (D := (dC, dI)) (ci := 2) (v := .int (S1 4 0 0 0)) (C := RX3) (T := TX3) (N := 3) hx hb hts hinX3 hown hK hP 0 rfl rfl 0 (by decide) hF16 (fun _ h9 => h9) rfl dX3_record_1 ?_
  refine lv_iconst (v := 4) hx hb dX3_record_4 ic_4 ?_
  refine lv_icmp_ne (tgt := 30) hx hb dX3_record_5 (by decide) (fun c5 => ?_) (fun c5 => ?_)
  · replace hR := it_f hR c5
    exact hB30 S1 s.heap _ ls hR hP hD hS (lv_sub hl [0, 1] rfl)
  · replace hR := it_t hR c5
    refine lv_aload_n hx hb dX3_record_8 rfl (lv_at hl 0 rfl) ?_
    refine lv_aload_n hx hb dX3_record_9 rfl (lv_at hl 0 rfl) ?_
    refine va_get (D := (dC, dI)) (ci := 2) (v := .int (S1 4 0 0 1)) (C := RX3) (T := TX3) (N := 3) hx hb hts hinX3 hown hK hP 0 rfl rfl 2 (by decide) hF20 (fun _ h9 => h9) rfl dX3_record_10 ?_
    refine lv_iconst (v := 1) hx hb dX3_record_13 ic_1 ?_
    refine lv_iadd hx hb dX3_record_14 ?_
    refine lv_iconst (v := 4) hx hb dX3_record_15 ic_4 ?_
    refine lv_irem hx hb dX3_record_16 (by decide) ?_
    refine va_put (D := (dC, dI)) (ci := 2) (v := .int (((S1 4 0 0 1) + 1) - ((S1 4 0 0 1) + 1) / 4 * 4)) (ty := .int) (C := RX3) (T := TX3) (N := 3) hx hb hts hinX3 tyX3 tyX3_ok nmX3 hown hK hP hD hS 0 rfl rfl 2 (by decide) hF20 (fun _ h9 => h9) rfl (by decide +kernel) rfl rfl (Nat.le_of_ble_eq_true rfl) dX3_record_17 (fun H17 locs17 hP' hD' hS' => ?_)
    replace hS := hS'
    have hP' : va_P (dC, dI) vwCl (fl [(w_X3 ad (b1) cs (sU S1 4 (sU (S1 4) 0 (sU ((S1 4) 0) 0 (sU (((S1 4) 0) 0) 1 (((S1 4 0 0 1) + 1) - ((S1 4 0 0 1) + 1) / 4 * 4)))))), (w_X5 ad (b2) cs S2)]) H17 := hP'
    have hD' : va_D A (fl [(w_X3 ad (b1) cs (sU S1 4 (sU (S1 4) 0 (sU ((S1 4) 0) 0 (sU (((S1 4) 0) 0) 1 (((S1 4 0 0 1) + 1) - ((S1 4 0 0 1) + 1) / 4 * 4)))))), (w_X5 ad (b2) cs S2)]) := hD'
    replace hR := bn_e hR
    obtain ⟨S1_17, eS1_17, hR⟩ := hR
    replace hP : va_P (dC, dI) vwCl (fl [(w_X3 ad (b1) cs S1_17), (w_X5 ad (b2) cs S2)]) H17 := by rw [eS1_17]; exact hP'
    replace hD : va_D A (fl [(w_X3 ad (b1) cs S1_17), (w_X5 ad (b2) cs S2)]) := by rw [eS1_17]; exact hD'
    clear hP' hD' hS'
    refine lv_aload_n hx hb dX3_record_20 rfl (lv_at hl 0 rfl) ?_
    refine lv_dup hx hb dX3_record_21 rfl ?_
    refine va_get (D := (dC, dI)) (ci := 2) (v := .int (S1_17 4 0 0 0)) (C := RX3) (T := TX3) (N := 3) hx hb hts hinX3 hown hK hP 0 rfl rfl 0 (by decide) hF16 (fun _ h9 => h9) rfl dX3_record_22 ?_
    refine lv_iconst (v := 1) hx hb dX3_record_25 ic_1 ?_
    refine lv_isub hx hb dX3_record_26 ?_
    refine va_put (D := (dC, dI)) (ci := 2) (v := .int ((S1_17 4 0 0 0) - 1)) (ty := .int) (C := RX3) (T := TX3) (N := 3) hx hb hts hinX3 tyX3 tyX3_ok nmX3 hown hK hP hD hS 0 rfl rfl 0 (by decide) hF16 (fun _ h9 => h9) rfl (by decide +kernel) rfl rfl (Nat.le_of_ble_eq_true rfl) dX3_record_27 (fun H27 locs27 hP' hD' hS' => ?_)
    replace hS := hS'
    have hP' : va_P (dC, dI) vwCl (fl [(w_X3 ad (b1) cs (sU S1_17 4 (sU (S1_17 4) 0 (sU ((S1_17 4) 0) 0 (sU (((S1_17 4) 0) 0) 0 ((S1_17 4 0 0 0) - 1)))))), (w_X5 ad (b2) cs S2)]) H27 := hP'
    have hD' : va_D A (fl [(w_X3 ad (b1) cs (sU S1_17 4 (sU (S1_17 4) 0 (sU ((S1_17 4) 0) 0 (sU (((S1_17 4) 0) 0) 0 ((S1_17 4 0 0 0) - 1)))))), (w_X5 ad (b2) cs S2)]) := hD'
    replace hR := bn_e hR
    obtain ⟨S1_27, eS1_27, hR⟩ := hR
    replace hP : va_P (dC, dI) vwCl (fl [(w_X3 ad (b1) cs S1_27), (w_X5 ad (b2) cs S2)]) H27 := by rw [eS1_27]; exact hP'
    replace hD : va_D A (fl [(w_X3 ad (b1) cs S1_27), (w_X5 ad (b2) cs S2)]) := by rw [eS1_27]; exact hD'
    clear hP' hD' hS'
    exact hB30 S1_27 H27 _ ls hR hP hD hS (lv_sub hl [0, 1] rfl)
set_option maxHeartbeats 8000000 in
set_option maxRecDepth 100000 in
theorem k_X4_has (l : Launch) (dC : Nat → ClassId) (dI : Nat → Nat → Nat) (cs : Nat → ClassId) (ad : Nat → Nat) (b1 : Nat) (sz : Nat) (S1 : T2) (p1 : Int32) (r : Int32) (hR : fX4_has S1 p1 = some r) : Met l yX4_has wsX4_has ({ frames := 0, cells := 0, slots := 0, locals := 0 } : Room) (va_Pc [.ref (ad b1), .int p1] (pW dC dI (tyL cs) (fl [(w_X4 ad (b1) cs S1)]) sz)) (QI dC dI (tyL cs) (va_A (fl [(w_X4 ad (b1) cs S1)]) sz) (fl [(w_X4 ad (b1) cs S1)]) r) 0 0 (va_A (fl [(w_X4 ad (b1) cs S1)]) sz) := by
  refine mt_of (own := RX4) (cc := cX4_has) (maxL := 2) (ret := (some .boolean)) (Qc := fun A => QI dC dI (tyL cs) A (fl [(w_X4 ad (b1) cs S1)]) r) rfl (by decide) rfl (Nat.le_of_ble_eq_true rfl) (fun p e s m below meth c A ls hsz hx hb hr hts hown hlocks hml hA hK hP hD hS hl => ?_)
  subst hsz
  have hl : lv_has ls 2 [(0, .ref (ad b1)), (1, .int p1)] := hl
  have hF39 := hts (.fieldLink RX4 39 "DockedBikes$Riders" "size" "I") (List.mem_of_getElem? (i := 1) rfl)
  have hinX4 : ∀ w ∈ wsX40, w ∈ wsX4_has := by decide +kernel
  refine lv_iload_n hx hb dX4_has_0 rfl (lv_at hl 1 rfl) ?_
  refine lv_if_lt (tgt := 16) hx hb dX4_has_1 (by decide) (fun c1 => ?_) (fun c1 => ?_)
  · replace hR := it_t hR c1
    refine lv_iconst (v := 0) hx hb dX4_has_16 ic_0 ?_
    replace hR := Option.some.inj hR
    have e9 := hR
    exact W.zret (ty := .boolean) hx hb hr (by decide) (fun t ht hW => ⟨⟨_, (), rfl, e9, by rw [ht]; exact hP, va_K.moved hW.alike hK, hD⟩, hS.F ht⟩) hS.2.2 dX4_has_17
  · replace hR := it_f hR c1
    refine lv_iload_n hx hb dX4_has_4 rfl (lv_at hl 1 rfl) ?_
    refine lv_aload_n hx hb dX4_has_5 rfl (lv_at hl 0 rfl) ?_
    refine va_get (D := (dC, dI)) (ci := 3) (v := .int (S1 9 0)) (C := RX4) (T := TX4) (N := 10) hx hb hts hinX4 hown hK hP 0 rfl rfl 0 (by decide) hF39 (fun _ h9 => h9) rfl dX4_has_6 ?_
    refine lv_icmp_ge (tgt := 16) hx hb dX4_has_9 (by decide) (fun c9 => ?_) (fun c9 => ?_)
    · replace hR := it_t hR c9
      refine lv_iconst (v := 0) hx hb dX4_has_16 ic_0 ?_
      replace hR := Option.some.inj hR
      have e9 := hR
      exact W.zret (ty := .boolean) hx hb hr (by decide) (fun t ht hW => ⟨⟨_, (), rfl, e9, by rw [ht]; exact hP, va_K.moved hW.alike hK, hD⟩, hS.F ht⟩) hS.2.2 dX4_has_17
    · replace hR := it_f hR c9
      refine lv_iconst (v := 1) hx hb dX4_has_12 ic_1 ?_
      refine lv_goto (tgt := 17) hx hb dX4_has_13 (by decide) ?_
      replace hR := Option.some.inj hR
      have e9 := hR
      exact W.zret (ty := .boolean) hx hb hr (by decide) (fun t ht hW => ⟨⟨_, (), rfl, e9, by rw [ht]; exact hP, va_K.moved hW.alike hK, hD⟩, hS.F ht⟩) hS.2.2 dX4_has_17
set_option maxHeartbeats 8000000 in
set_option maxRecDepth 100000 in
theorem k_X4_add (l : Launch) (dC : Nat → ClassId) (dI : Nat → Nat → Nat) (cs : Nat → ClassId) (ad : Nat → Nat) (b1 : Nat) (sz : Nat) (S1 : T2) (r : Int32) (u1 : T2) (hR : fX4_add S1 = some (r, u1)) : Met l yX4_add wsX4_add ({ frames := 0, cells := 0, slots := 0, locals := 0 } : Room) (va_Pc [.ref (ad b1)] (pW dC dI (tyL cs) (fl [(w_X4 ad (b1) cs S1)]) sz)) (QI dC dI (tyL cs) (va_A (fl [(w_X4 ad (b1) cs S1)]) sz) (fl [(w_X4 ad (b1) cs u1)]) r) 0 0 (va_A (fl [(w_X4 ad (b1) cs S1)]) sz) := by
  refine mt_of (own := RX4) (cc := cX4_add) (maxL := 1) (ret := (some .int)) (Qc := fun A => QI dC dI (tyL cs) A (fl [(w_X4 ad (b1) cs u1)]) r) rfl (by decide) rfl (Nat.le_of_ble_eq_true rfl) (fun p e s m below meth c A ls hsz hx hb hr hts hown hlocks hml hA hK hP hD hS hl => ?_)
  subst hsz
  have hl : lv_has ls 1 [(0, .ref (ad b1))] := hl
  have hF24 := hts (.fieldLink RX4 24 "DockedBikes$Riders" "bicycle" "[I") (List.mem_of_getElem? (i := 2) rfl)
  have hF39 := hts (.fieldLink RX4 39 "DockedBikes$Riders" "size" "I") (List.mem_of_getElem? (i := 1) rfl)
  have hinX4 : ∀ w ∈ wsX40, w ∈ wsX4_add := by decide +kernel
  refine lv_aload_n hx hb dX4_add_0 rfl (lv_at hl 0 rfl) ?_
  refine va_get (D := (dC, dI)) (ci := 3) (v := .int (S1 9 0)) (C := RX4) (T := TX4) (N := 10) hx hb hts hinX4 hown hK hP 0 rfl rfl 0 (by decide) hF39 (fun _ h9 => h9) rfl dX4_add_1 ?_
  refine lv_bipush (v := 8) hx hb dX4_add_4 bp_8 ?_
  refine lv_icmp_lt (tgt := 12) hx hb dX4_add_6 (by decide) (fun c6 => ?_) (fun c6 => ?_)
  · replace hR := it_t hR c6
    refine lv_aload_n hx hb dX4_add_12 rfl (lv_at hl 0 rfl) ?_
    refine va_get (D := (dC, dI)) (ci := 3) (v := .ref (ad (b1 + 5))) (C := RX4) (T := TX4) (N := 10) hx hb hts hinX4 hown hK hP 0 rfl rfl 5 (by decide) hF24 (fun _ h9 => h9) rfl dX4_add_13 ?_
    refine lv_aload_n hx hb dX4_add_16 rfl (lv_at hl 0 rfl) ?_
    refine va_get (D := (dC, dI)) (ci := 3) (v := .int (S1 9 0)) (C := RX4) (T := TX4) (N := 10) hx hb hts hinX4 hown hK hP 0 rfl rfl 0 (by decide) hF39 (fun _ h9 => h9) rfl dX4_add_17 ?_
    refine lv_iconst (v := (-1)) hx hb dX4_add_20 ic_m1 ?_
    replace hR := gi_e hR
    obtain ⟨i21, hR⟩ := hR
    refine va_iast hx hb hK hP hD hS 5 0 rfl rfl i21 dX4_add_21 (fun H21 locs21 hP' hD' hS' => ?_)
    replace hS := hS'
    have hP' : va_P (dC, dI) vwCl (fl [(w_X4 ad (b1) cs (sU S1 4 (sU (S1 4) (S1 9 0).toNatClampNeg (-1))))]) H21 := hP'
    have hD' : va_D A (fl [(w_X4 ad (b1) cs (sU S1 4 (sU (S1 4) (S1 9 0).toNatClampNeg (-1))))]) := hD'
    replace hR := bn_e hR
    obtain ⟨S1_21, eS1_21, hR⟩ := hR
    replace hP : va_P (dC, dI) vwCl (fl [(w_X4 ad (b1) cs S1_21)]) H21 := by rw [eS1_21]; exact hP'
    replace hD : va_D A (fl [(w_X4 ad (b1) cs S1_21)]) := by rw [eS1_21]; exact hD'
    clear hP' hD' hS'
    refine lv_aload_n hx hb dX4_add_22 rfl (lv_at hl 0 rfl) ?_
    refine lv_dup hx hb dX4_add_23 rfl ?_
    refine va_get (D := (dC, dI)) (ci := 3) (v := .int (S1_21 9 0)) (C := RX4) (T := TX4) (N := 10) hx hb hts hinX4 hown hK hP 0 rfl rfl 0 (by decide) hF39 (fun _ h9 => h9) rfl dX4_add_24 ?_
    refine lv_iconst (v := 1) hx hb dX4_add_27 ic_1 ?_
    refine lv_iadd hx hb dX4_add_28 ?_
    refine va_put (D := (dC, dI)) (ci := 3) (v := .int ((S1_21 9 0) + 1)) (ty := .int) (C := RX4) (T := TX4) (N := 10) hx hb hts hinX4 tyX4 tyX4_ok nmX4 hown hK hP hD hS 0 rfl rfl 0 (by decide) hF39 (fun _ h9 => h9) rfl (by decide +kernel) rfl rfl (Nat.le_of_ble_eq_true rfl) dX4_add_29 (fun H29 locs29 hP' hD' hS' => ?_)
    replace hS := hS'
    have hP' : va_P (dC, dI) vwCl (fl [(w_X4 ad (b1) cs (sU S1_21 9 (sU (S1_21 9) 0 ((S1_21 9 0) + 1))))]) H29 := hP'
    have hD' : va_D A (fl [(w_X4 ad (b1) cs (sU S1_21 9 (sU (S1_21 9) 0 ((S1_21 9 0) + 1))))]) := hD'
    replace hR := bn_e hR
    obtain ⟨S1_29, eS1_29, hR⟩ := hR
    replace hP : va_P (dC, dI) vwCl (fl [(w_X4 ad (b1) cs S1_29)]) H29 := by rw [eS1_29]; exact hP'
    replace hD : va_D A (fl [(w_X4 ad (b1) cs S1_29)]) := by rw [eS1_29]; exact hD'
    clear hP' hD' hS'
    refine lv_aload_n hx hb dX4_add_32 rfl (lv_at hl 0 rfl) ?_
    refine va_get (D := (dC, dI)) (ci := 3) (v := .int (S1_29 9 0)) (C := RX4) (T := TX4) (N := 10) hx hb hts hinX4 hown hK hP 0 rfl rfl 0 (by decide) hF39 (fun _ h9 => h9) rfl dX4_add_33 ?_
    refine lv_iconst (v := 1) hx hb dX4_add_36 ic_1 ?_
    refine lv_isub hx hb dX4_add_37 ?_
    replace hR := Option.some.inj hR
    obtain ⟨e9, hR⟩ := Prod.mk.inj hR
    have eu1 := hR
    replace hP : va_P (dC, dI) vwCl (fl [(w_X4 ad (b1) cs u1)]) H29 := by rw [← eu1]; exact hP
    replace hD : va_D A (fl [(w_X4 ad (b1) cs u1)]) := by rw [← eu1]; exact hD
    exact W.iret hx hb hr (fun t ht hW => ⟨⟨_, (), rfl, e9, by rw [ht]; exact hP, va_K.moved hW.alike hK, hD⟩, hS.F ht⟩) hS.2.2 dX4_add_38
  · replace hR := it_f hR c6
    refine lv_bipush (v := (-3)) hx hb dX4_add_9 bp_m3 ?_
    replace hR := Option.some.inj hR
    obtain ⟨e9, hR⟩ := Prod.mk.inj hR
    have eu1 := hR
    replace hP : va_P (dC, dI) vwCl (fl [(w_X4 ad (b1) cs u1)]) s.heap := by rw [← eu1]; exact hP
    replace hD : va_D A (fl [(w_X4 ad (b1) cs u1)]) := by rw [← eu1]; exact hD
    exact W.iret hx hb hr (fun t ht hW => ⟨⟨_, (), rfl, e9, by rw [ht]; exact hP, va_K.moved hW.alike hK, hD⟩, hS.F ht⟩) hS.2.2 dX4_add_11
set_option maxHeartbeats 8000000 in
set_option maxRecDepth 100000 in
theorem k_X4_hasRide (l : Launch) (dC : Nat → ClassId) (dI : Nat → Nat → Nat) (cs : Nat → ClassId) (ad : Nat → Nat) (b1 : Nat) (sz : Nat) (S1 : T2) (p1 : Int32) (r : Int32) (hR : fX4_hasRide S1 p1 = some r) : Met l yX4_hasRide wsX4_hasRide ({ frames := 1, cells := 0, slots := 0, locals := 21 } : Room) (va_Pc [.ref (ad b1), .int p1] (pW dC dI (tyL cs) (fl [(w_X4 ad (b1) cs S1)]) sz)) (QI dC dI (tyL cs) (va_A (fl [(w_X4 ad (b1) cs S1)]) sz) (fl [(w_X4 ad (b1) cs S1)]) r) 0 0 (va_A (fl [(w_X4 ad (b1) cs S1)]) sz) := by
  refine mt_of (own := RX4) (cc := cX4_hasRide) (maxL := 2) (ret := (some .boolean)) (Qc := fun A => QI dC dI (tyL cs) A (fl [(w_X4 ad (b1) cs S1)]) r) rfl (by decide) rfl (Nat.le_of_ble_eq_true rfl) (fun p e s m below meth c A ls hsz hx hb hr hts hown hlocks hml hA hK hP hD hS hl => ?_)
  subst hsz
  have hl : lv_has ls 2 [(0, .ref (ad b1)), (1, .int p1)] := hl
  have hF24 := hts (.fieldLink RX4 24 "DockedBikes$Riders" "bicycle" "[I") (List.mem_of_getElem? (i := 1) rfl)
  have hinX4 : ∀ w ∈ wsX40, w ∈ wsX4_hasRide := by decide +kernel
  refine lv_aload_n hx hb dX4_hasRide_0 rfl (lv_at hl 0 rfl) ?_
  refine lv_iload_n hx hb dX4_hasRide_1 rfl (lv_at hl 1 rfl) ?_
  replace hR := bd_e hR
  obtain ⟨q2, gq2, hR⟩ := hR
  refine cl_Vi (As := [.int p1]) (rest := []) (L := [(w_X4 ad (b1) cs S1)]) (L' := [(w_X4 ad (b1) cs S1)]) (Wc := [(w_X4 ad (b1) cs S1)]) (Wc' := [(w_X4 ad (b1) cs S1)]) (is := [0]) (js := []) ⟨hx, hb, hml, hown, hts⟩ (k_X4_has l dC dI cs ad (b1) s.heap.size S1 p1 q2 gq2) (cwV 1 hts gX4_hasRide_X4_has rfl rfl rfl cd_X4_has ⟨Nat.le_of_ble_eq_true rfl, Nat.le_of_ble_eq_true rfl⟩) hK hP hD hS hA ⟨rfl, rfl, rfl, rfl, rfl, rfl⟩ (jn_nd (is := [0]) hD rfl rfl) 0 3 rfl rfl rfl rfl rfl hl.1 (Nat.le_of_ble_eq_true rfl) dX4_hasRide_2 (fun H2 locs2 hP' hD' hS' => ?_)
  replace hS := hS'
  replace hP : va_P (dC, dI) vwCl (fl [(w_X4 ad (b1) cs S1)]) H2 := hP'
  replace hD : va_D A (fl [(w_X4 ad (b1) cs S1)]) := hD'
  clear hP' hD' hS'
  refine lv_if_eq (tgt := 22) hx hb dX4_hasRide_5 (by decide) (fun c5 => ?_) (fun c5 => ?_)
  · replace hR := it_t hR c5
    refine lv_iconst (v := 0) hx hb dX4_hasRide_22 ic_0 ?_
    replace hR := Option.some.inj hR
    have e9 := hR
    exact W.zret (ty := .boolean) hx hb hr (by decide) (fun t ht hW => ⟨⟨_, (), rfl, e9, by rw [ht]; exact hP, va_K.moved hW.alike hK, hD⟩, hS.F ht⟩) hS.2.2 dX4_hasRide_23
  · replace hR := it_f hR c5
    refine lv_aload_n hx hb dX4_hasRide_8 rfl (lv_at hl 0 rfl) ?_
    refine va_get (D := (dC, dI)) (ci := 3) (v := .ref (ad (b1 + 5))) (C := RX4) (T := TX4) (N := 10) hx hb hts hinX4 hown hK hP 0 rfl rfl 5 (by decide) hF24 (fun _ h9 => h9) rfl dX4_hasRide_9 ?_
    refine lv_iload_n hx hb dX4_hasRide_12 rfl (lv_at hl 1 rfl) ?_
    replace hR := gi_e hR
    obtain ⟨i13, hR⟩ := hR
    refine va_iald hx hb hK hP 5 0 rfl rfl i13 dX4_hasRide_13 ?_
    refine lv_iconst (v := (-1)) hx hb dX4_hasRide_14 ic_m1 ?_
    refine lv_icmp_eq (tgt := 22) hx hb dX4_hasRide_15 (by decide) (fun c15 => ?_) (fun c15 => ?_)
    · replace hR := it_t hR c15
      refine lv_iconst (v := 0) hx hb dX4_hasRide_22 ic_0 ?_
      replace hR := Option.some.inj hR
      have e9 := hR
      exact W.zret (ty := .boolean) hx hb hr (by decide) (fun t ht hW => ⟨⟨_, (), rfl, e9, by rw [ht]; exact hP, va_K.moved hW.alike hK, hD⟩, hS.F ht⟩) hS.2.2 dX4_hasRide_23
    · replace hR := it_f hR c15
      refine lv_iconst (v := 1) hx hb dX4_hasRide_18 ic_1 ?_
      refine lv_goto (tgt := 23) hx hb dX4_hasRide_19 (by decide) ?_
      replace hR := Option.some.inj hR
      have e9 := hR
      exact W.zret (ty := .boolean) hx hb hr (by decide) (fun t ht hW => ⟨⟨_, (), rfl, e9, by rw [ht]; exact hP, va_K.moved hW.alike hK, hD⟩, hS.F ht⟩) hS.2.2 dX4_hasRide_23
set_option maxHeartbeats 8000000 in
set_option maxRecDepth 100000 in
theorem k_X4_rideMinutes (l : Launch) (dC : Nat → ClassId) (dI : Nat → Nat → Nat) (cs : Nat → ClassId) (ad : Nat → Nat) (b1 : Nat) (sz : Nat) (S1 : T2) (p1 : Int32) (p2 : Int32) (r : Int32) (hR : fX4_rideMinutes S1 p1 p2 = some r) : Met l yX4_rideMinutes wsX4_rideMinutes ({ frames := 1, cells := 0, slots := 0, locals := 21 } : Room) (va_Pc [.ref (ad b1), .int p1, .int p2] (pW dC dI (tyL cs) (fl [(w_X4 ad (b1) cs S1)]) sz)) (QI dC dI (tyL cs) (va_A (fl [(w_X4 ad (b1) cs S1)]) sz) (fl [(w_X4 ad (b1) cs S1)]) r) 0 0 (va_A (fl [(w_X4 ad (b1) cs S1)]) sz) := by
  refine mt_of (own := RX4) (cc := cX4_rideMinutes) (maxL := 3) (ret := (some .int)) (Qc := fun A => QI dC dI (tyL cs) A (fl [(w_X4 ad (b1) cs S1)]) r) rfl (by decide) rfl (Nat.le_of_ble_eq_true rfl) (fun p e s m below meth c A ls hsz hx hb hr hts hown hlocks hml hA hK hP hD hS hl => ?_)
  subst hsz
  have hl : lv_has ls 3 [(0, .ref (ad b1)), (1, .int p1), (2, .int p2)] := hl
  have hF27 := hts (.fieldLink RX4 27 "DockedBikes$Riders" "start" "[I") (List.mem_of_getElem? (i := 1) rfl)
  have hinX4 : ∀ w ∈ wsX40, w ∈ wsX4_rideMinutes := by decide +kernel
  refine lv_aload_n hx hb dX4_rideMinutes_0 rfl (lv_at hl 0 rfl) ?_
  refine lv_iload_n hx hb dX4_rideMinutes_1 rfl (lv_at hl 1 rfl) ?_
  replace hR := bd_e hR
  obtain ⟨q2, gq2, hR⟩ := hR
  refine cl_Vi (As := [.int p1]) (rest := []) (L := [(w_X4 ad (b1) cs S1)]) (L' := [(w_X4 ad (b1) cs S1)]) (Wc := [(w_X4 ad (b1) cs S1)]) (Wc' := [(w_X4 ad (b1) cs S1)]) (is := [0]) (js := []) ⟨hx, hb, hml, hown, hts⟩ (k_X4_has l dC dI cs ad (b1) s.heap.size S1 p1 q2 gq2) (cwV 1 hts gX4_rideMinutes_X4_has rfl rfl rfl cd_X4_has ⟨Nat.le_of_ble_eq_true rfl, Nat.le_of_ble_eq_true rfl⟩) hK hP hD hS hA ⟨rfl, rfl, rfl, rfl, rfl, rfl⟩ (jn_nd (is := [0]) hD rfl rfl) 0 3 rfl rfl rfl rfl rfl hl.1 (Nat.le_of_ble_eq_true rfl) dX4_rideMinutes_2 (fun H2 locs2 hP' hD' hS' => ?_)
  replace hS := hS'
  replace hP : va_P (dC, dI) vwCl (fl [(w_X4 ad (b1) cs S1)]) H2 := hP'
  replace hD : va_D A (fl [(w_X4 ad (b1) cs S1)]) := hD'
  clear hP' hD' hS'
  refine lv_if_eq (tgt := 19) hx hb dX4_rideMinutes_5 (by decide) (fun c5 => ?_) (fun c5 => ?_)
  · replace hR := it_t hR c5
    refine lv_iconst (v := 0) hx hb dX4_rideMinutes_19 ic_0 ?_
    replace hR := Option.some.inj hR
    have e9 := hR
    exact W.iret hx hb hr (fun t ht hW => ⟨⟨_, (), rfl, e9, by rw [ht]; exact hP, va_K.moved hW.alike hK, hD⟩, hS.F ht⟩) hS.2.2 dX4_rideMinutes_20
  · replace hR := it_f hR c5
    refine lv_iload_n hx hb dX4_rideMinutes_8 rfl (lv_at hl 2 rfl) ?_
    refine lv_aload_n hx hb dX4_rideMinutes_9 rfl (lv_at hl 0 rfl) ?_
    refine va_get (D := (dC, dI)) (ci := 3) (v := .ref (ad (b1 + 6))) (C := RX4) (T := TX4) (N := 10) hx hb hts hinX4 hown hK hP 0 rfl rfl 6 (by decide) hF27 (fun _ h9 => h9) rfl dX4_rideMinutes_10 ?_
    refine lv_iload_n hx hb dX4_rideMinutes_13 rfl (lv_at hl 1 rfl) ?_
    replace hR := gi_e hR
    obtain ⟨i14, hR⟩ := hR
    refine va_iald hx hb hK hP 6 0 rfl rfl i14 dX4_rideMinutes_14 ?_
    refine lv_isub hx hb dX4_rideMinutes_15 ?_
    refine lv_goto (tgt := 20) hx hb dX4_rideMinutes_16 (by decide) ?_
    replace hR := Option.some.inj hR
    have e9 := hR
    exact W.iret hx hb hr (fun t ht hW => ⟨⟨_, (), rfl, e9, by rw [ht]; exact hP, va_K.moved hW.alike hK, hD⟩, hS.F ht⟩) hS.2.2 dX4_rideMinutes_20
set_option maxHeartbeats 8000000 in
set_option maxRecDepth 100000 in
theorem k_X4_fee (l : Launch) (dC : Nat → ClassId) (dI : Nat → Nat → Nat) (cs : Nat → ClassId) (ad : Nat → Nat) (b1 : Nat) (sz : Nat) (S1 : T2) (p1 : Int32) (p2 : Int32) (r : Int32) (hR : fX4_fee S1 p1 p2 = some r) : Met l yX4_fee wsX4_fee ({ frames := 2, cells := 0, slots := 0, locals := 43 } : Room) (va_Pc [.ref (ad b1), .int p1, .int p2] (pW dC dI (tyL cs) (fl [(w_X4 ad (b1) cs S1)]) sz)) (QI dC dI (tyL cs) (va_A (fl [(w_X4 ad (b1) cs S1)]) sz) (fl [(w_X4 ad (b1) cs S1)]) r) 0 0 (va_A (fl [(w_X4 ad (b1) cs S1)]) sz) := by
  refine mt_of (own := RX4) (cc := cX4_fee) (maxL := 4) (ret := (some .int)) (Qc := fun A => QI dC dI (tyL cs) A (fl [(w_X4 ad (b1) cs S1)]) r) rfl (by decide) rfl (Nat.le_of_ble_eq_true rfl) (fun p e s m below meth c A ls hsz hx hb hr hts hown hlocks hml hA hK hP hD hS hl => ?_)
  subst hsz
  have hl : lv_has ls 4 [(0, .ref (ad b1)), (1, .int p1), (2, .int p2)] := hl
  have hF30 := hts (.fieldLink RX4 30 "DockedBikes$Riders" "free" "[I") (List.mem_of_getElem? (i := 1) rfl)
  have hF33 := hts (.fieldLink RX4 33 "DockedBikes$Riders" "ground" "[I") (List.mem_of_getElem? (i := 6) rfl)
  have hinX4 : ∀ w ∈ wsX40, w ∈ wsX4_fee := by decide +kernel
  refine lv_aload_n hx hb dX4_fee_0 rfl (lv_at hl 0 rfl) ?_
  refine lv_iload_n hx hb dX4_fee_1 rfl (lv_at hl 1 rfl) ?_
  replace hR := bd_e hR
  obtain ⟨q2, gq2, hR⟩ := hR
  refine cl_Vi (As := [.int p1]) (rest := []) (L := [(w_X4 ad (b1) cs S1)]) (L' := [(w_X4 ad (b1) cs S1)]) (Wc := [(w_X4 ad (b1) cs S1)]) (Wc' := [(w_X4 ad (b1) cs S1)]) (is := [0]) (js := []) ⟨hx, hb, hml, hown, hts⟩ (k_X4_hasRide l dC dI cs ad (b1) s.heap.size S1 p1 q2 gq2) (cwV 1 hts gX4_fee_X4_hasRide rfl rfl rfl cd_X4_hasRide ⟨Nat.le_of_ble_eq_true rfl, Nat.le_of_ble_eq_true rfl⟩) hK hP hD hS hA ⟨rfl, rfl, rfl, rfl, rfl, rfl⟩ (jn_nd (is := [0]) hD rfl rfl) 0 3 rfl rfl rfl rfl rfl hl.1 (Nat.le_of_ble_eq_true rfl) dX4_fee_2 (fun H2 locs2 hP' hD' hS' => ?_)
  replace hS := hS'
  replace hP : va_P (dC, dI) vwCl (fl [(w_X4 ad (b1) cs S1)]) H2 := hP'
  replace hD : va_D A (fl [(w_X4 ad (b1) cs S1)]) := hD'
  clear hP' hD' hS'
  refine lv_if_ne (tgt := 10) hx hb dX4_fee_5 (by decide) (fun c5 => ?_) (fun c5 => ?_)
  · replace hR := it_f hR c5
    refine lv_iconst (v := 0) hx hb dX4_fee_10 ic_0 ?_
    refine lv_aload_n hx hb dX4_fee_11 rfl (lv_at hl 0 rfl) ?_
    refine lv_iload_n hx hb dX4_fee_12 rfl (lv_at hl 1 rfl) ?_
    refine lv_iload_n hx hb dX4_fee_13 rfl (lv_at hl 2 rfl) ?_
    replace hR := bd_e hR
    obtain ⟨q14, gq14, hR⟩ := hR
    refine cl_Vi (As := [.int p1, .int p2]) (rest := [.int (0 : Int32)]) (L := [(w_X4 ad (b1) cs S1)]) (L' := [(w_X4 ad (b1) cs S1)]) (Wc := [(w_X4 ad (b1) cs S1)]) (Wc' := [(w_X4 ad (b1) cs S1)]) (is := [0]) (js := []) ⟨hx, hb, hml, hown, hts⟩ (k_X4_rideMinutes l dC dI cs ad (b1) H2.size S1 p1 p2 q14 gq14) (cwV 2 hts gX4_fee_X4_rideMinutes rfl rfl rfl cd_X4_rideMinutes ⟨Nat.le_of_ble_eq_true rfl, Nat.le_of_ble_eq_true rfl⟩) hK hP hD hS hA ⟨rfl, rfl, rfl, rfl, rfl, rfl⟩ (jn_nd (is := [0]) hD rfl rfl) 0 3 rfl rfl rfl rfl rfl hl.1 (Nat.le_of_ble_eq_true rfl) dX4_fee_14 (fun H14 locs14 hP' hD' hS' => ?_)
    replace hS := hS'
    replace hP : va_P (dC, dI) vwCl (fl [(w_X4 ad (b1) cs S1)]) H14 := hP'
    replace hD : va_D A (fl [(w_X4 ad (b1) cs S1)]) := hD'
    clear hP' hD' hS'
    refine lv_aload_n hx hb dX4_fee_17 rfl (lv_at hl 0 rfl) ?_
    refine va_get (D := (dC, dI)) (ci := 3) (v := .ref (ad (b1 + 7))) (C := RX4) (T := TX4) (N := 10) hx hb hts hinX4 hown hK hP 0 rfl rfl 7 (by decide) hF30 (fun _ h9 => h9) rfl dX4_fee_18 ?_
    refine lv_iload_n hx hb dX4_fee_21 rfl (lv_at hl 1 rfl) ?_
    replace hR := gi_e hR
    obtain ⟨i22, hR⟩ := hR
    refine va_iald hx hb hK hP 7 0 rfl rfl i22 dX4_fee_22 ?_
    refine lv_isub hx hb dX4_fee_23 ?_
    refine va_mmax hx hb (hml.trans hl.1.symm) hown (hts (.methodLink RX4 60 Lib.Math.max.name) (List.mem_of_getElem? (i := 2) rfl)) (hts (.static Lib.Math.max.name) (List.mem_of_getElem? (i := 3) rfl)) (hts (.initialized "java/lang/Math") (List.mem_of_getElem? (i := 4) rfl)) (hts (.code Lib.Math.max.name Lib.Math.max.code 2 (some .int)) (List.mem_of_getElem? (i := 5) rfl)) (Nat.le_of_ble_eq_true rfl) (Nat.le_of_ble_eq_true rfl) (Nat.zero_le _) (Nat.zero_le _) dX4_fee_24 ?_
    replace hR := bn_e hR
    obtain ⟨m24, em24, hR⟩ := hR
    refine tp_e em24 ?_
    refine lv_istore_n (lv' := [(3, .int m24), (0, .ref (ad b1)), (1, .int p1), (2, .int p2)]) hx hb dX4_fee_27 rfl hl (Nat.le_of_ble_eq_true rfl) rfl (fun ls hl => ?_)
    refine lv_iload_n hx hb dX4_fee_28 rfl (lv_at hl 0 rfl) ?_
    refine lv_iconst (v := 5) hx hb dX4_fee_29 ic_5 ?_
    refine lv_iadd hx hb dX4_fee_30 ?_
    refine lv_iconst (v := 1) hx hb dX4_fee_31 ic_1 ?_
    refine lv_isub hx hb dX4_fee_32 ?_
    refine lv_iconst (v := 5) hx hb dX4_fee_33 ic_5 ?_
    refine lv_idiv hx hb dX4_fee_34 (by decide) ?_
    refine lv_aload_n hx hb dX4_fee_35 rfl (lv_at hl 1 rfl) ?_
    refine va_get (D := (dC, dI)) (ci := 3) (v := .ref (ad (b1 + 8))) (C := RX4) (T := TX4) (N := 10) hx hb hts hinX4 hown hK hP 0 rfl rfl 8 (by decide) hF33 (fun _ h9 => h9) rfl dX4_fee_36 ?_
    refine lv_iload_n hx hb dX4_fee_39 rfl (lv_at hl 2 rfl) ?_
    replace hR := gi_e hR
    obtain ⟨i40, hR⟩ := hR
    refine va_iald hx hb hK hP 8 0 rfl rfl i40 dX4_fee_40 ?_
    refine lv_iadd hx hb dX4_fee_41 ?_
    replace hR := Option.some.inj hR
    have e9 := hR
    exact W.iret hx hb hr (fun t ht hW => ⟨⟨_, (), rfl, e9, by rw [ht]; exact hP, va_K.moved hW.alike hK, hD⟩, hS.F ht⟩) hS.2.2 dX4_fee_42
  · replace hR := it_t hR c5
    refine lv_iconst (v := 0) hx hb dX4_fee_8 ic_0 ?_
    replace hR := Option.some.inj hR
    have e9 := hR
    exact W.iret hx hb hr (fun t ht hW => ⟨⟨_, (), rfl, e9, by rw [ht]; exact hP, va_K.moved hW.alike hK, hD⟩, hS.F ht⟩) hS.2.2 dX4_fee_9
set_option maxHeartbeats 8000000 in
set_option maxRecDepth 100000 in
theorem k_X4_allOwed (l : Launch) (dC : Nat → ClassId) (dI : Nat → Nat → Nat) (cs : Nat → ClassId) (ad : Nat → Nat) (b1 : Nat) (sz : Nat) (S1 : T2) (r : Int32) (hR : fX4_allOwed S1 = some r) : Met l yX4_allOwed wsX4_allOwed ({ frames := 0, cells := 0, slots := 0, locals := 0 } : Room) (va_Pc [.ref (ad b1)] (pW dC dI (tyL cs) (fl [(w_X4 ad (b1) cs S1)]) sz)) (QI dC dI (tyL cs) (va_A (fl [(w_X4 ad (b1) cs S1)]) sz) (fl [(w_X4 ad (b1) cs S1)]) r) 0 0 (va_A (fl [(w_X4 ad (b1) cs S1)]) sz) := by
  refine mt_of (own := RX4) (cc := cX4_allOwed) (maxL := 3) (ret := (some .int)) (Qc := fun A => QI dC dI (tyL cs) A (fl [(w_X4 ad (b1) cs S1)]) r) rfl (by decide) rfl (Nat.le_of_ble_eq_true rfl) (fun p e s m below meth c A ls hsz hx hb hr hts hown hlocks hml hA hK hP hD hS hl => ?_)
  subst hsz
  have hl : lv_has ls 3 [(0, .ref (ad b1))] := hl
  have hF11 := hts (.fieldLink RX4 11 "DockedBikes$Riders" "owed" "[I") (List.mem_of_getElem? (i := 2) rfl)
  have hF39 := hts (.fieldLink RX4 39 "DockedBikes$Riders" "size" "I") (List.mem_of_getElem? (i := 1) rfl)
  have hinX4 : ∀ w ∈ wsX40, w ∈ wsX4_allOwed := by decide +kernel
  have hB4 : ∀ (n4 : Nat), ∀ (v1_4 : Int32) (v2_4 : Int32) (H : Heap) (locs : List Loc) (ls : Array Slot), fX4_allOwed_4 S1 n4 v1_4 v2_4 = some r → va_P (dC, dI) vwCl (fl [(w_X4 ad (b1) cs S1)]) H → va_D A (fl [(w_X4 ad (b1) cs S1)]) → va_S A s.heap H locs → lv_has ls 3 [(0, .ref (ad b1)), (1, .int v1_4), (2, .int v2_4)] → W p l e (headSpec wsX4_allOwed ({ frames := 0, cells := 0, slots := 0, locals := 0 } : Room)).room s m ([.ref (ad b1)] : List Value).toArray below meth c H locs 0 0 (MQ below (QI dC dI (tyL cs) A (fl [(w_X4 ad (b1) cs S1)]) r) ([.ref (ad b1)] : List Value).toArray s 0 0 A) (F0 m 4 ls []) := by
    intro n4
    induction n4 with
    | zero =>
      intro v1_4 v2_4 H locs ls hR hP hD hS hl
      exact nn_e hR
    | succ n4 hI4 =>
      intro v1_4 v2_4 H locs ls hR hP hD hS hl
      rw [fX4_allOwed_4] at hR
      refine lv_iload_n hx hb dX4_allOwed_4 rfl (lv_at hl 2 rfl) ?_
      refine lv_aload_n hx hb dX4_allOwed_5 rfl (lv_at hl 0 rfl) ?_
      refine va_get (D := (dC, dI)) (ci := 3) (v := .int (S1 9 0)) (C := RX4) (T := TX4) (N := 10) hx hb hts hinX4 hown hK hP 0 rfl rfl 0 (by decide) hF39 (fun _ h9 => h9) rfl dX4_allOwed_6 ?_
      refine lv_icmp_ge (tgt := 27) hx hb dX4_allOwed_9 (by decide) (fun c9 => ?_) (fun c9 => ?_)
      · replace hR := it_t hR c9
        refine lv_iload_n hx hb dX4_allOwed_27 rfl (lv_at hl 1 rfl) ?_
        replace hR := Option.some.inj hR
        have e9 := hR
        exact W.iret hx hb hr (fun t ht hW => ⟨⟨_, (), rfl, e9, by rw [ht]; exact hP, va_K.moved hW.alike hK, hD⟩, hS.F ht⟩) hS.2.2 dX4_allOwed_28
      · replace hR := it_f hR c9
        refine lv_iload_n hx hb dX4_allOwed_12 rfl (lv_at hl 1 rfl) ?_
        refine lv_aload_n hx hb dX4_allOwed_13 rfl (lv_at hl 0 rfl) ?_
        refine va_get (D := (dC, dI)) (ci := 3) (v := .ref (ad (b1 + 1))) (C := RX4) (T := TX4) (N := 10) hx hb hts hinX4 hown hK hP 0 rfl rfl 1 (by decide) hF11 (fun _ h9 => h9) rfl dX4_allOwed_14 ?_
        refine lv_iload_n hx hb dX4_allOwed_17 rfl (lv_at hl 2 rfl) ?_
        replace hR := gi_e hR
        obtain ⟨i18, hR⟩ := hR
        refine va_iald hx hb hK hP 1 0 rfl rfl i18 dX4_allOwed_18 ?_
        refine lv_iadd hx hb dX4_allOwed_19 ?_
        refine lv_istore_n (lv' := [(1, .int (v1_4 + (S1 0 v2_4.toNatClampNeg))), (0, .ref (ad b1)), (2, .int v2_4)]) hx hb dX4_allOwed_20 rfl hl (Nat.le_of_ble_eq_true rfl) rfl (fun ls hl => ?_)
        refine lv_iinc (v := (v2_4 + 1)) (lv' := [(2, .int (v2_4 + 1)), (1, .int (v1_4 + (S1 0 v2_4.toNatClampNeg))), (0, .ref (ad b1))]) hx hb dX4_allOwed_21 hl (k := 2) rfl rfl (Nat.le_of_ble_eq_true rfl) rfl (fun ls hl => ?_)
        refine lv_goto (tgt := 4) hx hb dX4_allOwed_24 (by decide) ?_
        exact hI4 (v1_4 + (S1 0 v2_4.toNatClampNeg)) (v2_4 + 1) H _ ls hR hP hD hS (lv_sub hl [2, 1, 0] rfl)
  refine lv_iconst (v := 0) hx hb dX4_allOwed_0 ic_0 ?_
  refine lv_istore_n (lv' := [(1, .int (0 : Int32)), (0, .ref (ad b1))]) hx hb dX4_allOwed_1 rfl hl (Nat.le_of_ble_eq_true rfl) rfl (fun ls hl => ?_)
  refine lv_iconst (v := 0) hx hb dX4_allOwed_2 ic_0 ?_
  refine lv_istore_n (lv' := [(2, .int (0 : Int32)), (1, .int (0 : Int32)), (0, .ref (ad b1))]) hx hb dX4_allOwed_3 rfl hl (Nat.le_of_ble_eq_true rfl) rfl (fun ls hl => ?_)
  exact hB4 fuel (0 : Int32) (0 : Int32) s.heap _ ls hR hP hD hS (lv_sub hl [2, 1, 0] rfl)
set_option maxHeartbeats 8000000 in
set_option maxRecDepth 100000 in
theorem k_X6_add (l : Launch) (dC : Nat → ClassId) (dI : Nat → Nat → Nat) (cs : Nat → ClassId) (ad : Nat → Nat) (b1 : Nat) (sz : Nat) (S1 : T2) (p1 : Int32) (p2 : Int32) (r : Int32) (u1 : T2) (hR : fX6_add S1 p1 p2 = some (r, u1)) : Met l yX6_add wsX6_add ({ frames := 0, cells := 0, slots := 0, locals := 0 } : Room) (va_Pc [.ref (ad b1), .int p1, .int p2] (pW dC dI (tyL cs) (fl [(w_X6 ad (b1) cs S1)]) sz)) (QI dC dI (tyL cs) (va_A (fl [(w_X6 ad (b1) cs S1)]) sz) (fl [(w_X6 ad (b1) cs u1)]) r) 0 0 (va_A (fl [(w_X6 ad (b1) cs S1)]) sz) := by
  refine mt_of (own := RX6) (cc := cX6_add) (maxL := 3) (ret := (some .int)) (Qc := fun A => QI dC dI (tyL cs) A (fl [(w_X6 ad (b1) cs u1)]) r) rfl (by decide) rfl (Nat.le_of_ble_eq_true rfl) (fun p e s m below meth c A ls hsz hx hb hr hts hown hlocks hml hA hK hP hD hS hl => ?_)
  subst hsz
  have hl : lv_has ls 3 [(0, .ref (ad b1)), (1, .int p1), (2, .int p2)] := hl
  have hF11 := hts (.fieldLink RX6 11 "DockedBikes$Stations" "place" "[I") (List.mem_of_getElem? (i := 2) rfl)
  have hF15 := hts (.fieldLink RX6 15 "DockedBikes$Stations" "docks" "[I") (List.mem_of_getElem? (i := 3) rfl)
  have hF24 := hts (.fieldLink RX6 24 "DockedBikes$Stations" "size" "I") (List.mem_of_getElem? (i := 1) rfl)
  have hinX6 : ∀ w ∈ wsX60, w ∈ wsX6_add := by decide +kernel
  refine lv_aload_n hx hb dX6_add_0 rfl (lv_at hl 0 rfl) ?_
  refine va_get (D := (dC, dI)) (ci := 5) (v := .int (S1 4 0)) (C := RX6) (T := TX6) (N := 5) hx hb hts hinX6 hown hK hP 0 rfl rfl 0 (by decide) hF24 (fun _ h9 => h9) rfl dX6_add_1 ?_
  refine lv_bipush (v := 6) hx hb dX6_add_4 bp_6 ?_
  refine lv_icmp_lt (tgt := 12) hx hb dX6_add_6 (by decide) (fun c6 => ?_) (fun c6 => ?_)
  · replace hR := it_t hR c6
    refine lv_aload_n hx hb dX6_add_12 rfl (lv_at hl 0 rfl) ?_
    refine va_get (D := (dC, dI)) (ci := 5) (v := .ref (ad (b1 + 1))) (C := RX6) (T := TX6) (N := 5) hx hb hts hinX6 hown hK hP 0 rfl rfl 1 (by decide) hF11 (fun _ h9 => h9) rfl dX6_add_13 ?_
    refine lv_aload_n hx hb dX6_add_16 rfl (lv_at hl 0 rfl) ?_
    refine va_get (D := (dC, dI)) (ci := 5) (v := .int (S1 4 0)) (C := RX6) (T := TX6) (N := 5) hx hb hts hinX6 hown hK hP 0 rfl rfl 0 (by decide) hF24 (fun _ h9 => h9) rfl dX6_add_17 ?_
    refine lv_iload_n hx hb dX6_add_20 rfl (lv_at hl 1 rfl) ?_
    replace hR := gi_e hR
    obtain ⟨i21, hR⟩ := hR
    refine va_iast hx hb hK hP hD hS 1 0 rfl rfl i21 dX6_add_21 (fun H21 locs21 hP' hD' hS' => ?_)
    replace hS := hS'
    have hP' : va_P (dC, dI) vwCl (fl [(w_X6 ad (b1) cs (sU S1 0 (sU (S1 0) (S1 4 0).toNatClampNeg p1)))]) H21 := hP'
    have hD' : va_D A (fl [(w_X6 ad (b1) cs (sU S1 0 (sU (S1 0) (S1 4 0).toNatClampNeg p1)))]) := hD'
    replace hR := bn_e hR
    obtain ⟨S1_21, eS1_21, hR⟩ := hR
    replace hP : va_P (dC, dI) vwCl (fl [(w_X6 ad (b1) cs S1_21)]) H21 := by rw [eS1_21]; exact hP'
    replace hD : va_D A (fl [(w_X6 ad (b1) cs S1_21)]) := by rw [eS1_21]; exact hD'
    clear hP' hD' hS'
    refine lv_aload_n hx hb dX6_add_22 rfl (lv_at hl 0 rfl) ?_
    refine va_get (D := (dC, dI)) (ci := 5) (v := .ref (ad (b1 + 2))) (C := RX6) (T := TX6) (N := 5) hx hb hts hinX6 hown hK hP 0 rfl rfl 2 (by decide) hF15 (fun _ h9 => h9) rfl dX6_add_23 ?_
    refine lv_aload_n hx hb dX6_add_26 rfl (lv_at hl 0 rfl) ?_
    refine va_get (D := (dC, dI)) (ci := 5) (v := .int (S1_21 4 0)) (C := RX6) (T := TX6) (N := 5) hx hb hts hinX6 hown hK hP 0 rfl rfl 0 (by decide) hF24 (fun _ h9 => h9) rfl dX6_add_27 ?_
    refine lv_iload_n hx hb dX6_add_30 rfl (lv_at hl 2 rfl) ?_
    replace hR := gi_e hR
    obtain ⟨i31, hR⟩ := hR
    refine va_iast hx hb hK hP hD hS 2 0 rfl rfl i31 dX6_add_31 (fun H31 locs31 hP' hD' hS' => ?_)
    replace hS := hS'
    have hP' : va_P (dC, dI) vwCl (fl [(w_X6 ad (b1) cs (sU S1_21 1 (sU (S1_21 1) (S1_21 4 0).toNatClampNeg p2)))]) H31 := hP'
    have hD' : va_D A (fl [(w_X6 ad (b1) cs (sU S1_21 1 (sU (S1_21 1) (S1_21 4 0).toNatClampNeg p2)))]) := hD'
    replace hR := bn_e hR
    obtain ⟨S1_31, eS1_31, hR⟩ := hR
    replace hP : va_P (dC, dI) vwCl (fl [(w_X6 ad (b1) cs S1_31)]) H31 := by rw [eS1_31]; exact hP'
    replace hD : va_D A (fl [(w_X6 ad (b1) cs S1_31)]) := by rw [eS1_31]; exact hD'
    clear hP' hD' hS'
    refine lv_aload_n hx hb dX6_add_32 rfl (lv_at hl 0 rfl) ?_
    refine lv_dup hx hb dX6_add_33 rfl ?_
    refine va_get (D := (dC, dI)) (ci := 5) (v := .int (S1_31 4 0)) (C := RX6) (T := TX6) (N := 5) hx hb hts hinX6 hown hK hP 0 rfl rfl 0 (by decide) hF24 (fun _ h9 => h9) rfl dX6_add_34 ?_
    refine lv_iconst (v := 1) hx hb dX6_add_37 ic_1 ?_
    refine lv_iadd hx hb dX6_add_38 ?_
    refine va_put (D := (dC, dI)) (ci := 5) (v := .int ((S1_31 4 0) + 1)) (ty := .int) (C := RX6) (T := TX6) (N := 5) hx hb hts hinX6 tyX6 tyX6_ok nmX6 hown hK hP hD hS 0 rfl rfl 0 (by decide) hF24 (fun _ h9 => h9) rfl (by decide +kernel) rfl rfl (Nat.le_of_ble_eq_true rfl) dX6_add_39 (fun H39 locs39 hP' hD' hS' => ?_)
    replace hS := hS'
    have hP' : va_P (dC, dI) vwCl (fl [(w_X6 ad (b1) cs (sU S1_31 4 (sU (S1_31 4) 0 ((S1_31 4 0) + 1))))]) H39 := hP'
    have hD' : va_D A (fl [(w_X6 ad (b1) cs (sU S1_31 4 (sU (S1_31 4) 0 ((S1_31 4 0) + 1))))]) := hD'
    replace hR := bn_e hR
    obtain ⟨S1_39, eS1_39, hR⟩ := hR
    replace hP : va_P (dC, dI) vwCl (fl [(w_X6 ad (b1) cs S1_39)]) H39 := by rw [eS1_39]; exact hP'
    replace hD : va_D A (fl [(w_X6 ad (b1) cs S1_39)]) := by rw [eS1_39]; exact hD'
    clear hP' hD' hS'
    refine lv_aload_n hx hb dX6_add_42 rfl (lv_at hl 0 rfl) ?_
    refine va_get (D := (dC, dI)) (ci := 5) (v := .int (S1_39 4 0)) (C := RX6) (T := TX6) (N := 5) hx hb hts hinX6 hown hK hP 0 rfl rfl 0 (by decide) hF24 (fun _ h9 => h9) rfl dX6_add_43 ?_
    refine lv_iconst (v := 1) hx hb dX6_add_46 ic_1 ?_
    refine lv_isub hx hb dX6_add_47 ?_
    replace hR := Option.some.inj hR
    obtain ⟨e9, hR⟩ := Prod.mk.inj hR
    have eu1 := hR
    replace hP : va_P (dC, dI) vwCl (fl [(w_X6 ad (b1) cs u1)]) H39 := by rw [← eu1]; exact hP
    replace hD : va_D A (fl [(w_X6 ad (b1) cs u1)]) := by rw [← eu1]; exact hD
    exact W.iret hx hb hr (fun t ht hW => ⟨⟨_, (), rfl, e9, by rw [ht]; exact hP, va_K.moved hW.alike hK, hD⟩, hS.F ht⟩) hS.2.2 dX6_add_48
  · replace hR := it_f hR c6
    refine lv_bipush (v := (-3)) hx hb dX6_add_9 bp_m3 ?_
    replace hR := Option.some.inj hR
    obtain ⟨e9, hR⟩ := Prod.mk.inj hR
    have eu1 := hR
    replace hP : va_P (dC, dI) vwCl (fl [(w_X6 ad (b1) cs u1)]) s.heap := by rw [← eu1]; exact hP
    replace hD : va_D A (fl [(w_X6 ad (b1) cs u1)]) := by rw [← eu1]; exact hD
    exact W.iret hx hb hr (fun t ht hW => ⟨⟨_, (), rfl, e9, by rw [ht]; exact hP, va_K.moved hW.alike hK, hD⟩, hS.F ht⟩) hS.2.2 dX6_add_11
set_option maxHeartbeats 8000000 in
set_option maxRecDepth 100000 in
theorem k_X5_addStation (l : Launch) (dC : Nat → ClassId) (dI : Nat → Nat → Nat) (cs : Nat → ClassId) (ad : Nat → Nat) (b1 : Nat) (sz : Nat) (S1 : T3) (p1 : Int32) (p2 : Int32) (r : Int32) (u1 : T3) (hR : fX5_addStation S1 p1 p2 = some (r, u1)) : Met l yX5_addStation wsX5_addStation ({ frames := 1, cells := 0, slots := 0, locals := 22 } : Room) (va_Pc [.ref (ad b1), .int p1, .int p2] (pW dC dI (tyL cs) (fl [(w_X5 ad (b1) cs S1)]) sz)) (QI dC dI (tyL cs) (va_A (fl [(w_X5 ad (b1) cs S1)]) sz) (fl [(w_X5 ad (b1) cs u1)]) r) 0 0 (va_A (fl [(w_X5 ad (b1) cs S1)]) sz) := by
  refine mt_of (own := RX5) (cc := cX5_addStation) (maxL := 3) (ret := (some .int)) (Qc := fun A => QI dC dI (tyL cs) A (fl [(w_X5 ad (b1) cs u1)]) r) rfl (by decide) rfl (Nat.le_of_ble_eq_true rfl) (fun p e s m below meth c A ls hsz hx hb hr hts hown hlocks hml hA hK hP hD hS hl => ?_)
  subst hsz
  have hl : lv_has ls 3 [(0, .ref (ad b1)), (1, .int p1), (2, .int p2)] := hl
  have hF12 := hts (.fieldLink RX5 12 "DockedBikes$Road" "stations" "LDockedBikes$Stations;") (List.mem_of_getElem? (i := 1) rfl)
  have hinX5 : ∀ w ∈ wsX50, w ∈ wsX5_addStation := by decide +kernel
  refine lv_iload_n hx hb dX5_addStation_0 rfl (lv_at hl 1 rfl) ?_
  refine lv_if_lt (tgt := 21) hx hb dX5_addStation_1 (by decide) (fun c1 => ?_) (fun c1 => ?_)
  · replace hR := it_t hR c1
    refine lv_iconst (v := (-1)) hx hb dX5_addStation_21 ic_m1 ?_
    replace hR := Option.some.inj hR
    obtain ⟨e9, hR⟩ := Prod.mk.inj hR
    have eu1 := hR
    replace hP : va_P (dC, dI) vwCl (fl [(w_X5 ad (b1) cs u1)]) s.heap := by rw [← eu1]; exact hP
    replace hD : va_D A (fl [(w_X5 ad (b1) cs u1)]) := by rw [← eu1]; exact hD
    exact W.iret hx hb hr (fun t ht hW => ⟨⟨_, (), rfl, e9, by rw [ht]; exact hP, va_K.moved hW.alike hK, hD⟩, hS.F ht⟩) hS.2.2 dX5_addStation_22
  · replace hR := it_f hR c1
    refine lv_iload_n hx hb dX5_addStation_4 rfl (lv_at hl 1 rfl) ?_
    refine lv_bipush (v := 99) hx hb dX5_addStation_5 bp_99 ?_
    refine lv_icmp_gt (tgt := 21) hx hb dX5_addStation_7 (by decide) (fun c7 => ?_) (fun c7 => ?_)
    · replace hR := it_t hR c7
      refine lv_iconst (v := (-1)) hx hb dX5_addStation_21 ic_m1 ?_
      replace hR := Option.some.inj hR
      obtain ⟨e9, hR⟩ := Prod.mk.inj hR
      have eu1 := hR
      replace hP : va_P (dC, dI) vwCl (fl [(w_X5 ad (b1) cs u1)]) s.heap := by rw [← eu1]; exact hP
      replace hD : va_D A (fl [(w_X5 ad (b1) cs u1)]) := by rw [← eu1]; exact hD
      exact W.iret hx hb hr (fun t ht hW => ⟨⟨_, (), rfl, e9, by rw [ht]; exact hP, va_K.moved hW.alike hK, hD⟩, hS.F ht⟩) hS.2.2 dX5_addStation_22
    · replace hR := it_f hR c7
      refine lv_iload_n hx hb dX5_addStation_10 rfl (lv_at hl 2 rfl) ?_
      refine lv_iconst (v := 1) hx hb dX5_addStation_11 ic_1 ?_
      refine lv_icmp_lt (tgt := 21) hx hb dX5_addStation_12 (by decide) (fun c12 => ?_) (fun c12 => ?_)
      · replace hR := it_t hR c12
        refine lv_iconst (v := (-1)) hx hb dX5_addStation_21 ic_m1 ?_
        replace hR := Option.some.inj hR
        obtain ⟨e9, hR⟩ := Prod.mk.inj hR
        have eu1 := hR
        replace hP : va_P (dC, dI) vwCl (fl [(w_X5 ad (b1) cs u1)]) s.heap := by rw [← eu1]; exact hP
        replace hD : va_D A (fl [(w_X5 ad (b1) cs u1)]) := by rw [← eu1]; exact hD
        exact W.iret hx hb hr (fun t ht hW => ⟨⟨_, (), rfl, e9, by rw [ht]; exact hP, va_K.moved hW.alike hK, hD⟩, hS.F ht⟩) hS.2.2 dX5_addStation_22
      · replace hR := it_f hR c12
        refine lv_iload_n hx hb dX5_addStation_15 rfl (lv_at hl 2 rfl) ?_
        refine lv_bipush (v := 8) hx hb dX5_addStation_16 bp_8 ?_
        refine lv_icmp_le (tgt := 23) hx hb dX5_addStation_18 (by decide) (fun c18 => ?_) (fun c18 => ?_)
        · replace hR := it_t hR c18
          refine lv_aload_n hx hb dX5_addStation_23 rfl (lv_at hl 0 rfl) ?_
          refine va_get (D := (dC, dI)) (ci := 4) (v := .ref (ad (b1 + 1))) (C := RX5) (T := TX5) (N := 6) hx hb hts hinX5 hown hK hP 0 rfl rfl 0 (by decide) hF12 (fun _ h9 => h9) rfl dX5_addStation_24 ?_
          refine lv_iload_n hx hb dX5_addStation_27 rfl (lv_at hl 1 rfl) ?_
          refine lv_iload_n hx hb dX5_addStation_28 rfl (lv_at hl 2 rfl) ?_
          replace hR := bd_e hR
          obtain ⟨q29, gq29, hR⟩ := hR
          replace hP : va_P (dC, dI) vwCl (fl [[((ad b1), .inr (4, [.ref (ad (b1 + 1)), .ref (ad (b1 + 6)), .ref (ad (b1 + 13)), .ref (ad (b1 + 23)), .ref (ad (b1 + 27)), .int (S1 4 1 0)]))], (w_X6 ad (b1 + 1) cs (S1 0)), (w_X1 ad (b1 + 6) cs (S1 1)), (w_X4 ad (b1 + 13) cs (S1 2)), (w_X8 ad (b1 + 23) cs (S1 3)), [((ad (b1 + 27)), .inl (cs 0, 3, .inl (S1 4 0)))]]) s.heap := hP
          replace hD : va_D A (fl [[((ad b1), .inr (4, [.ref (ad (b1 + 1)), .ref (ad (b1 + 6)), .ref (ad (b1 + 13)), .ref (ad (b1 + 23)), .ref (ad (b1 + 27)), .int (S1 4 1 0)]))], (w_X6 ad (b1 + 1) cs (S1 0)), (w_X1 ad (b1 + 6) cs (S1 1)), (w_X4 ad (b1 + 13) cs (S1 2)), (w_X8 ad (b1 + 23) cs (S1 3)), [((ad (b1 + 27)), .inl (cs 0, 3, .inl (S1 4 0)))]]) := hD
          refine cl_Vi (As := [.int p1, .int p2]) (rest := []) (L := [[((ad b1), .inr (4, [.ref (ad (b1 + 1)), .ref (ad (b1 + 6)), .ref (ad (b1 + 13)), .ref (ad (b1 + 23)), .ref (ad (b1 + 27)), .int (S1 4 1 0)]))], (w_X6 ad (b1 + 1) cs (S1 0)), (w_X1 ad (b1 + 6) cs (S1 1)), (w_X4 ad (b1 + 13) cs (S1 2)), (w_X8 ad (b1 + 23) cs (S1 3)), [((ad (b1 + 27)), .inl (cs 0, 3, .inl (S1 4 0)))]]) (L' := [[((ad b1), .inr (4, [.ref (ad (b1 + 1)), .ref (ad (b1 + 6)), .ref (ad (b1 + 13)), .ref (ad (b1 + 23)), .ref (ad (b1 + 27)), .int ((sU S1 0 q29.2) 4 1 0)]))], (w_X6 ad (b1 + 1) cs ((sU S1 0 q29.2) 0)), (w_X1 ad (b1 + 6) cs ((sU S1 0 q29.2) 1)), (w_X4 ad (b1 + 13) cs ((sU S1 0 q29.2) 2)), (w_X8 ad (b1 + 23) cs ((sU S1 0 q29.2) 3)), [((ad (b1 + 27)), .inl (cs 0, 3, .inl ((sU S1 0 q29.2) 4 0)))]]) (Wc := [(w_X6 ad (b1 + 1) cs (S1 0))]) (Wc' := [(w_X6 ad (b1 + 1) cs q29.2)]) (is := [1]) (js := [0, 2, 3, 4, 5]) ⟨hx, hb, hml, hown, hts⟩ (k_X6_add l dC dI cs ad (b1 + 1) s.heap.size (S1 0) p1 p2 q29.1 q29.2 gq29) (cwV 2 hts gX5_addStation_X6_add rfl rfl rfl cd_X6_add ⟨Nat.le_of_ble_eq_true rfl, Nat.le_of_ble_eq_true rfl⟩) hK hP hD hS hA ⟨rfl, rfl, rfl, rfl, rfl, rfl⟩ (jn_nd (is := [1]) hD rfl rfl) 1 5 rfl rfl rfl rfl rfl hl.1 (Nat.le_of_ble_eq_true rfl) dX5_addStation_29 (fun H29 locs29 hP' hD' hS' => ?_)
          replace hS := hS'
          have hP' : va_P (dC, dI) vwCl (fl [(w_X5 ad (b1) cs (sU S1 0 q29.2))]) H29 := hP'
          have hD' : va_D A (fl [(w_X5 ad (b1) cs (sU S1 0 q29.2))]) := hD'
          replace hR := bn_e hR
          obtain ⟨S1_29, eS1_29, hR⟩ := hR
          replace hP : va_P (dC, dI) vwCl (fl [(w_X5 ad (b1) cs S1_29)]) H29 := by rw [eS1_29]; exact hP'
          replace hD : va_D A (fl [(w_X5 ad (b1) cs S1_29)]) := by rw [eS1_29]; exact hD'
          clear hP' hD' hS'
          replace hR := Option.some.inj hR
          obtain ⟨e9, hR⟩ := Prod.mk.inj hR
          have eu1 := hR
          replace hP : va_P (dC, dI) vwCl (fl [(w_X5 ad (b1) cs u1)]) H29 := by rw [← eu1]; exact hP
          replace hD : va_D A (fl [(w_X5 ad (b1) cs u1)]) := by rw [← eu1]; exact hD
          exact W.iret hx hb hr (fun t ht hW => ⟨⟨_, (), rfl, e9, by rw [ht]; exact hP, va_K.moved hW.alike hK, hD⟩, hS.F ht⟩) hS.2.2 dX5_addStation_32
        · replace hR := it_f hR c18
          refine lv_iconst (v := (-1)) hx hb dX5_addStation_21 ic_m1 ?_
          replace hR := Option.some.inj hR
          obtain ⟨e9, hR⟩ := Prod.mk.inj hR
          have eu1 := hR
          replace hP : va_P (dC, dI) vwCl (fl [(w_X5 ad (b1) cs u1)]) s.heap := by rw [← eu1]; exact hP
          replace hD : va_D A (fl [(w_X5 ad (b1) cs u1)]) := by rw [← eu1]; exact hD
          exact W.iret hx hb hr (fun t ht hW => ⟨⟨_, (), rfl, e9, by rw [ht]; exact hP, va_K.moved hW.alike hK, hD⟩, hS.F ht⟩) hS.2.2 dX5_addStation_22
set_option maxHeartbeats 8000000 in
set_option maxRecDepth 100000 in
theorem k_X5_docked (l : Launch) (dC : Nat → ClassId) (dI : Nat → Nat → Nat) (cs : Nat → ClassId) (ad : Nat → Nat) (b1 : Nat) (sz : Nat) (S1 : T3) (p1 : Int32) (r : Int32) (hR : fX5_docked S1 p1 = some r) : Met l yX5_docked wsX5_docked ({ frames := 1, cells := 0, slots := 0, locals := 24 } : Room) (va_Pc [.ref (ad b1), .int p1] (pW dC dI (tyL cs) (fl [(w_X5 ad (b1) cs S1)]) sz)) (QI dC dI (tyL cs) (va_A (fl [(w_X5 ad (b1) cs S1)]) sz) (fl [(w_X5 ad (b1) cs S1)]) r) 0 0 (va_A (fl [(w_X5 ad (b1) cs S1)]) sz) := by
  refine mt_of (own := RX5) (cc := cX5_docked) (maxL := 2) (ret := (some .int)) (Qc := fun A => QI dC dI (tyL cs) A (fl [(w_X5 ad (b1) cs S1)]) r) rfl (by decide) rfl (Nat.le_of_ble_eq_true rfl) (fun p e s m below meth c A ls hsz hx hb hr hts hown hlocks hml hA hK hP hD hS hl => ?_)
  subst hsz
  have hl : lv_has ls 2 [(0, .ref (ad b1)), (1, .int p1)] := hl
  have hF21 := hts (.fieldLink RX5 21 "DockedBikes$Road" "bicycles" "LDockedBikes$Bicycles;") (List.mem_of_getElem? (i := 1) rfl)
  have hinX5 : ∀ w ∈ wsX50, w ∈ wsX5_docked := by decide +kernel
  refine lv_aload_n hx hb dX5_docked_0 rfl (lv_at hl 0 rfl) ?_
  refine va_get (D := (dC, dI)) (ci := 4) (v := .ref (ad (b1 + 6))) (C := RX5) (T := TX5) (N := 6) hx hb hts hinX5 hown hK hP 0 rfl rfl 1 (by decide) hF21 (fun _ h9 => h9) rfl dX5_docked_1 ?_
  refine lv_iconst (v := 0) hx hb dX5_docked_4 ic_0 ?_
  refine lv_iload_n hx hb dX5_docked_5 rfl (lv_at hl 1 rfl) ?_
  replace hR := bd_e hR
  obtain ⟨q6, gq6, hR⟩ := hR
  replace hP : va_P (dC, dI) vwCl (fl [[((ad b1), .inr (4, [.ref (ad (b1 + 1)), .ref (ad (b1 + 6)), .ref (ad (b1 + 13)), .ref (ad (b1 + 23)), .ref (ad (b1 + 27)), .int (S1 4 1 0)]))], (w_X6 ad (b1 + 1) cs (S1 0)), (w_X1 ad (b1 + 6) cs (S1 1)), (w_X4 ad (b1 + 13) cs (S1 2)), (w_X8 ad (b1 + 23) cs (S1 3)), [((ad (b1 + 27)), .inl (cs 0, 3, .inl (S1 4 0)))]]) s.heap := hP
  replace hD : va_D A (fl [[((ad b1), .inr (4, [.ref (ad (b1 + 1)), .ref (ad (b1 + 6)), .ref (ad (b1 + 13)), .ref (ad (b1 + 23)), .ref (ad (b1 + 27)), .int (S1 4 1 0)]))], (w_X6 ad (b1 + 1) cs (S1 0)), (w_X1 ad (b1 + 6) cs (S1 1)), (w_X4 ad (b1 + 13) cs (S1 2)), (w_X8 ad (b1 + 23) cs (S1 3)), [((ad (b1 + 27)), .inl (cs 0, 3, .inl (S1 4 0)))]]) := hD
  refine cl_Vi (As := [.int (0 : Int32), .int p1]) (rest := []) (L := [[((ad b1), .inr (4, [.ref (ad (b1 + 1)), .ref (ad (b1 + 6)), .ref (ad (b1 + 13)), .ref (ad (b1 + 23)), .ref (ad (b1 + 27)), .int (S1 4 1 0)]))], (w_X6 ad (b1 + 1) cs (S1 0)), (w_X1 ad (b1 + 6) cs (S1 1)), (w_X4 ad (b1 + 13) cs (S1 2)), (w_X8 ad (b1 + 23) cs (S1 3)), [((ad (b1 + 27)), .inl (cs 0, 3, .inl (S1 4 0)))]]) (L' := [[((ad b1), .inr (4, [.ref (ad (b1 + 1)), .ref (ad (b1 + 6)), .ref (ad (b1 + 13)), .ref (ad (b1 + 23)), .ref (ad (b1 + 27)), .int (S1 4 1 0)]))], (w_X6 ad (b1 + 1) cs (S1 0)), (w_X1 ad (b1 + 6) cs (S1 1)), (w_X4 ad (b1 + 13) cs (S1 2)), (w_X8 ad (b1 + 23) cs (S1 3)), [((ad (b1 + 27)), .inl (cs 0, 3, .inl (S1 4 0)))]]) (Wc := [(w_X1 ad (b1 + 6) cs (S1 1))]) (Wc' := [(w_X1 ad (b1 + 6) cs (S1 1))]) (is := [2]) (js := [0, 1, 3, 4, 5]) ⟨hx, hb, hml, hown, hts⟩ (k_X1_countAt l dC dI cs ad (b1 + 6) s.heap.size (S1 1) (0 : Int32) p1 q6 gq6) (cwV 2 hts gX5_docked_X1_countAt rfl rfl rfl cd_X1_countAt ⟨Nat.le_of_ble_eq_true rfl, Nat.le_of_ble_eq_true rfl⟩) hK hP hD hS hA ⟨rfl, rfl, rfl, rfl, rfl, rfl⟩ (jn_nd (is := [2]) hD rfl rfl) 6 0 rfl rfl rfl rfl rfl hl.1 (Nat.le_of_ble_eq_true rfl) dX5_docked_6 (fun H6 locs6 hP' hD' hS' => ?_)
  replace hS := hS'
  replace hP : va_P (dC, dI) vwCl (fl [(w_X5 ad (b1) cs S1)]) H6 := hP'
  replace hD : va_D A (fl [(w_X5 ad (b1) cs S1)]) := hD'
  clear hP' hD' hS'
  replace hR := Option.some.inj hR
  have e9 := hR
  exact W.iret hx hb hr (fun t ht hW => ⟨⟨_, (), rfl, e9, by rw [ht]; exact hP, va_K.moved hW.alike hK, hD⟩, hS.F ht⟩) hS.2.2 dX5_docked_9
set_option maxHeartbeats 8000000 in
set_option maxRecDepth 100000 in
theorem k_X5_hasFreeDock (l : Launch) (dC : Nat → ClassId) (dI : Nat → Nat → Nat) (cs : Nat → ClassId) (ad : Nat → Nat) (b1 : Nat) (sz : Nat) (S1 : T3) (p1 : Int32) (r : Int32) (hR : fX5_hasFreeDock S1 p1 = some r) : Met l yX5_hasFreeDock wsX5_hasFreeDock ({ frames := 2, cells := 0, slots := 0, locals := 45 } : Room) (va_Pc [.ref (ad b1), .int p1] (pW dC dI (tyL cs) (fl [(w_X5 ad (b1) cs S1)]) sz)) (QI dC dI (tyL cs) (va_A (fl [(w_X5 ad (b1) cs S1)]) sz) (fl [(w_X5 ad (b1) cs S1)]) r) 0 0 (va_A (fl [(w_X5 ad (b1) cs S1)]) sz) := by
  refine mt_of (own := RX5) (cc := cX5_hasFreeDock) (maxL := 2) (ret := (some .boolean)) (Qc := fun A => QI dC dI (tyL cs) A (fl [(w_X5 ad (b1) cs S1)]) r) rfl (by decide) rfl (Nat.le_of_ble_eq_true rfl) (fun p e s m below meth c A ls hsz hx hb hr hts hown hlocks hml hA hK hP hD hS hl => ?_)
  subst hsz
  have hl : lv_has ls 2 [(0, .ref (ad b1)), (1, .int p1)] := hl
  have hF12 := hts (.fieldLink RX5 12 "DockedBikes$Road" "stations" "LDockedBikes$Stations;") (List.mem_of_getElem? (i := 1) rfl)
  have hF192 := hts (.fieldLink RX5 192 "DockedBikes$Stations" "docks" "[I") (List.mem_of_getElem? (i := 2) rfl)
  have hinX5 : ∀ w ∈ wsX50, w ∈ wsX5_hasFreeDock := by decide +kernel
  have hinX6 : ∀ w ∈ wsX60, w ∈ wsX5_hasFreeDock := by decide +kernel
  refine lv_aload_n hx hb dX5_hasFreeDock_0 rfl (lv_at hl 0 rfl) ?_
  refine va_get (D := (dC, dI)) (ci := 4) (v := .ref (ad (b1 + 1))) (C := RX5) (T := TX5) (N := 6) hx hb hts hinX5 hown hK hP 0 rfl rfl 0 (by decide) hF12 (fun _ h9 => h9) rfl dX5_hasFreeDock_1 ?_
  refine lv_iload_n hx hb dX5_hasFreeDock_4 rfl (lv_at hl 1 rfl) ?_
  replace hR := bd_e hR
  obtain ⟨q5, gq5, hR⟩ := hR
  replace hP : va_P (dC, dI) vwCl (fl [[((ad b1), .inr (4, [.ref (ad (b1 + 1)), .ref (ad (b1 + 6)), .ref (ad (b1 + 13)), .ref (ad (b1 + 23)), .ref (ad (b1 + 27)), .int (S1 4 1 0)]))], (w_X6 ad (b1 + 1) cs (S1 0)), (w_X1 ad (b1 + 6) cs (S1 1)), (w_X4 ad (b1 + 13) cs (S1 2)), (w_X8 ad (b1 + 23) cs (S1 3)), [((ad (b1 + 27)), .inl (cs 0, 3, .inl (S1 4 0)))]]) s.heap := hP
  replace hD : va_D A (fl [[((ad b1), .inr (4, [.ref (ad (b1 + 1)), .ref (ad (b1 + 6)), .ref (ad (b1 + 13)), .ref (ad (b1 + 23)), .ref (ad (b1 + 27)), .int (S1 4 1 0)]))], (w_X6 ad (b1 + 1) cs (S1 0)), (w_X1 ad (b1 + 6) cs (S1 1)), (w_X4 ad (b1 + 13) cs (S1 2)), (w_X8 ad (b1 + 23) cs (S1 3)), [((ad (b1 + 27)), .inl (cs 0, 3, .inl (S1 4 0)))]]) := hD
  refine cl_Vi (As := [.int p1]) (rest := []) (L := [[((ad b1), .inr (4, [.ref (ad (b1 + 1)), .ref (ad (b1 + 6)), .ref (ad (b1 + 13)), .ref (ad (b1 + 23)), .ref (ad (b1 + 27)), .int (S1 4 1 0)]))], (w_X6 ad (b1 + 1) cs (S1 0)), (w_X1 ad (b1 + 6) cs (S1 1)), (w_X4 ad (b1 + 13) cs (S1 2)), (w_X8 ad (b1 + 23) cs (S1 3)), [((ad (b1 + 27)), .inl (cs 0, 3, .inl (S1 4 0)))]]) (L' := [[((ad b1), .inr (4, [.ref (ad (b1 + 1)), .ref (ad (b1 + 6)), .ref (ad (b1 + 13)), .ref (ad (b1 + 23)), .ref (ad (b1 + 27)), .int (S1 4 1 0)]))], (w_X6 ad (b1 + 1) cs (S1 0)), (w_X1 ad (b1 + 6) cs (S1 1)), (w_X4 ad (b1 + 13) cs (S1 2)), (w_X8 ad (b1 + 23) cs (S1 3)), [((ad (b1 + 27)), .inl (cs 0, 3, .inl (S1 4 0)))]]) (Wc := [(w_X6 ad (b1 + 1) cs (S1 0))]) (Wc' := [(w_X6 ad (b1 + 1) cs (S1 0))]) (is := [1]) (js := [0, 2, 3, 4, 5]) ⟨hx, hb, hml, hown, hts⟩ (k_X6_has l dC dI cs ad (b1 + 1) s.heap.size (S1 0) p1 q5 gq5) (cwV 1 hts gX5_hasFreeDock_X6_has rfl rfl rfl cd_X6_has ⟨Nat.le_of_ble_eq_true rfl, Nat.le_of_ble_eq_true rfl⟩) hK hP hD hS hA ⟨rfl, rfl, rfl, rfl, rfl, rfl⟩ (jn_nd (is := [1]) hD rfl rfl) 1 5 rfl rfl rfl rfl rfl hl.1 (Nat.le_of_ble_eq_true rfl) dX5_hasFreeDock_5 (fun H5 locs5 hP' hD' hS' => ?_)
  replace hS := hS'
  replace hP : va_P (dC, dI) vwCl (fl [(w_X5 ad (b1) cs S1)]) H5 := hP'
  replace hD : va_D A (fl [(w_X5 ad (b1) cs S1)]) := hD'
  clear hP' hD' hS'
  refine lv_if_eq (tgt := 32) hx hb dX5_hasFreeDock_8 (by decide) (fun c8 => ?_) (fun c8 => ?_)
  · replace hR := it_t hR c8
    refine lv_iconst (v := 0) hx hb dX5_hasFreeDock_32 ic_0 ?_
    replace hR := Option.some.inj hR
    have e9 := hR
    exact W.zret (ty := .boolean) hx hb hr (by decide) (fun t ht hW => ⟨⟨_, (), rfl, e9, by rw [ht]; exact hP, va_K.moved hW.alike hK, hD⟩, hS.F ht⟩) hS.2.2 dX5_hasFreeDock_33
  · replace hR := it_f hR c8
    refine lv_aload_n hx hb dX5_hasFreeDock_11 rfl (lv_at hl 0 rfl) ?_
    refine lv_iload_n hx hb dX5_hasFreeDock_12 rfl (lv_at hl 1 rfl) ?_
    replace hR := bd_e hR
    obtain ⟨q13, gq13, hR⟩ := hR
    refine cl_Vi (As := [.int p1]) (rest := []) (L := [(w_X5 ad (b1) cs S1)]) (L' := [(w_X5 ad (b1) cs S1)]) (Wc := [(w_X5 ad (b1) cs S1)]) (Wc' := [(w_X5 ad (b1) cs S1)]) (is := [0]) (js := []) ⟨hx, hb, hml, hown, hts⟩ (k_X5_docked l dC dI cs ad (b1) H5.size S1 p1 q13 gq13) (cwV 1 hts gX5_hasFreeDock_X5_docked rfl rfl rfl cd_X5_docked ⟨Nat.le_of_ble_eq_true rfl, Nat.le_of_ble_eq_true rfl⟩) hK hP hD hS hA ⟨rfl, rfl, rfl, rfl, rfl, rfl⟩ (jn_nd (is := [0]) hD rfl rfl) 0 4 rfl rfl rfl rfl rfl hl.1 (Nat.le_of_ble_eq_true rfl) dX5_hasFreeDock_13 (fun H13 locs13 hP' hD' hS' => ?_)
    replace hS := hS'
    replace hP : va_P (dC, dI) vwCl (fl [(w_X5 ad (b1) cs S1)]) H13 := hP'
    replace hD : va_D A (fl [(w_X5 ad (b1) cs S1)]) := hD'
    clear hP' hD' hS'
    refine lv_aload_n hx hb dX5_hasFreeDock_16 rfl (lv_at hl 0 rfl) ?_
    refine va_get (D := (dC, dI)) (ci := 4) (v := .ref (ad (b1 + 1))) (C := RX5) (T := TX5) (N := 6) hx hb hts hinX5 hown hK hP 0 rfl rfl 0 (by decide) hF12 (fun _ h9 => h9) rfl dX5_hasFreeDock_17 ?_
    refine va_get (D := (dC, dI)) (ci := 5) (v := .ref (ad (b1 + 1 + 2))) (C := RX6) (T := TX6) (N := 5) hx hb hts hinX6 hown hK hP 1 rfl rfl 2 (by decide) hF192 (fun _ h9 => h9) rfl dX5_hasFreeDock_20 ?_
    refine lv_iload_n hx hb dX5_hasFreeDock_23 rfl (lv_at hl 1 rfl) ?_
    replace hR := gi_e hR
    obtain ⟨i24, hR⟩ := hR
    refine va_iald hx hb hK hP 3 0 rfl rfl i24 dX5_hasFreeDock_24 ?_
    refine lv_icmp_ge (tgt := 32) hx hb dX5_hasFreeDock_25 (by decide) (fun c25 => ?_) (fun c25 => ?_)
    · replace hR := it_t hR c25
      refine lv_iconst (v := 0) hx hb dX5_hasFreeDock_32 ic_0 ?_
      replace hR := Option.some.inj hR
      have e9 := hR
      exact W.zret (ty := .boolean) hx hb hr (by decide) (fun t ht hW => ⟨⟨_, (), rfl, e9, by rw [ht]; exact hP, va_K.moved hW.alike hK, hD⟩, hS.F ht⟩) hS.2.2 dX5_hasFreeDock_33
    · replace hR := it_f hR c25
      refine lv_iconst (v := 1) hx hb dX5_hasFreeDock_28 ic_1 ?_
      refine lv_goto (tgt := 33) hx hb dX5_hasFreeDock_29 (by decide) ?_
      replace hR := Option.some.inj hR
      have e9 := hR
      exact W.zret (ty := .boolean) hx hb hr (by decide) (fun t ht hW => ⟨⟨_, (), rfl, e9, by rw [ht]; exact hP, va_K.moved hW.alike hK, hD⟩, hS.F ht⟩) hS.2.2 dX5_hasFreeDock_33
set_option maxHeartbeats 8000000 in
set_option maxRecDepth 100000 in
theorem k_X5_addBicycle (l : Launch) (dC : Nat → ClassId) (dI : Nat → Nat → Nat) (cs : Nat → ClassId) (ad : Nat → Nat) (b1 : Nat) (sz : Nat) (S1 : T3) (p1 : Int32) (r : Int32) (u1 : T3) (hR : fX5_addBicycle S1 p1 = some (r, u1)) : Met l yX5_addBicycle wsX5_addBicycle ({ frames := 3, cells := 0, slots := 0, locals := 66 } : Room) (va_Pc [.ref (ad b1), .int p1] (pW dC dI (tyL cs) (fl [(w_X5 ad (b1) cs S1)]) sz)) (QI dC dI (tyL cs) (va_A (fl [(w_X5 ad (b1) cs S1)]) sz) (fl [(w_X5 ad (b1) cs u1)]) r) 0 0 (va_A (fl [(w_X5 ad (b1) cs S1)]) sz) := by
  refine mt_of (own := RX5) (cc := cX5_addBicycle) (maxL := 2) (ret := (some .int)) (Qc := fun A => QI dC dI (tyL cs) A (fl [(w_X5 ad (b1) cs u1)]) r) rfl (by decide) rfl (Nat.le_of_ble_eq_true rfl) (fun p e s m below meth c A ls hsz hx hb hr hts hown hlocks hml hA hK hP hD hS hl => ?_)
  subst hsz
  have hl : lv_has ls 2 [(0, .ref (ad b1)), (1, .int p1)] := hl
  have hF12 := hts (.fieldLink RX5 12 "DockedBikes$Road" "stations" "LDockedBikes$Stations;") (List.mem_of_getElem? (i := 1) rfl)
  have hF21 := hts (.fieldLink RX5 21 "DockedBikes$Road" "bicycles" "LDockedBikes$Bicycles;") (List.mem_of_getElem? (i := 2) rfl)
  have hinX5 : ∀ w ∈ wsX50, w ∈ wsX5_addBicycle := by decide +kernel
  refine lv_aload_n hx hb dX5_addBicycle_0 rfl (lv_at hl 0 rfl) ?_
  refine va_get (D := (dC, dI)) (ci := 4) (v := .ref (ad (b1 + 1))) (C := RX5) (T := TX5) (N := 6) hx hb hts hinX5 hown hK hP 0 rfl rfl 0 (by decide) hF12 (fun _ h9 => h9) rfl dX5_addBicycle_1 ?_
  refine lv_iload_n hx hb dX5_addBicycle_4 rfl (lv_at hl 1 rfl) ?_
  replace hR := bd_e hR
  obtain ⟨q5, gq5, hR⟩ := hR
  replace hP : va_P (dC, dI) vwCl (fl [[((ad b1), .inr (4, [.ref (ad (b1 + 1)), .ref (ad (b1 + 6)), .ref (ad (b1 + 13)), .ref (ad (b1 + 23)), .ref (ad (b1 + 27)), .int (S1 4 1 0)]))], (w_X6 ad (b1 + 1) cs (S1 0)), (w_X1 ad (b1 + 6) cs (S1 1)), (w_X4 ad (b1 + 13) cs (S1 2)), (w_X8 ad (b1 + 23) cs (S1 3)), [((ad (b1 + 27)), .inl (cs 0, 3, .inl (S1 4 0)))]]) s.heap := hP
  replace hD : va_D A (fl [[((ad b1), .inr (4, [.ref (ad (b1 + 1)), .ref (ad (b1 + 6)), .ref (ad (b1 + 13)), .ref (ad (b1 + 23)), .ref (ad (b1 + 27)), .int (S1 4 1 0)]))], (w_X6 ad (b1 + 1) cs (S1 0)), (w_X1 ad (b1 + 6) cs (S1 1)), (w_X4 ad (b1 + 13) cs (S1 2)), (w_X8 ad (b1 + 23) cs (S1 3)), [((ad (b1 + 27)), .inl (cs 0, 3, .inl (S1 4 0)))]]) := hD
  refine cl_Vi (As := [.int p1]) (rest := []) (L := [[((ad b1), .inr (4, [.ref (ad (b1 + 1)), .ref (ad (b1 + 6)), .ref (ad (b1 + 13)), .ref (ad (b1 + 23)), .ref (ad (b1 + 27)), .int (S1 4 1 0)]))], (w_X6 ad (b1 + 1) cs (S1 0)), (w_X1 ad (b1 + 6) cs (S1 1)), (w_X4 ad (b1 + 13) cs (S1 2)), (w_X8 ad (b1 + 23) cs (S1 3)), [((ad (b1 + 27)), .inl (cs 0, 3, .inl (S1 4 0)))]]) (L' := [[((ad b1), .inr (4, [.ref (ad (b1 + 1)), .ref (ad (b1 + 6)), .ref (ad (b1 + 13)), .ref (ad (b1 + 23)), .ref (ad (b1 + 27)), .int (S1 4 1 0)]))], (w_X6 ad (b1 + 1) cs (S1 0)), (w_X1 ad (b1 + 6) cs (S1 1)), (w_X4 ad (b1 + 13) cs (S1 2)), (w_X8 ad (b1 + 23) cs (S1 3)), [((ad (b1 + 27)), .inl (cs 0, 3, .inl (S1 4 0)))]]) (Wc := [(w_X6 ad (b1 + 1) cs (S1 0))]) (Wc' := [(w_X6 ad (b1 + 1) cs (S1 0))]) (is := [1]) (js := [0, 2, 3, 4, 5]) ⟨hx, hb, hml, hown, hts⟩ (k_X6_has l dC dI cs ad (b1 + 1) s.heap.size (S1 0) p1 q5 gq5) (cwV 1 hts gX5_addBicycle_X6_has rfl rfl rfl cd_X6_has ⟨Nat.le_of_ble_eq_true rfl, Nat.le_of_ble_eq_true rfl⟩) hK hP hD hS hA ⟨rfl, rfl, rfl, rfl, rfl, rfl⟩ (jn_nd (is := [1]) hD rfl rfl) 1 5 rfl rfl rfl rfl rfl hl.1 (Nat.le_of_ble_eq_true rfl) dX5_addBicycle_5 (fun H5 locs5 hP' hD' hS' => ?_)
  replace hS := hS'
  replace hP : va_P (dC, dI) vwCl (fl [(w_X5 ad (b1) cs S1)]) H5 := hP'
  replace hD : va_D A (fl [(w_X5 ad (b1) cs S1)]) := hD'
  clear hP' hD' hS'
  refine lv_if_ne (tgt := 13) hx hb dX5_addBicycle_8 (by decide) (fun c8 => ?_) (fun c8 => ?_)
  · replace hR := it_f hR c8
    refine lv_aload_n hx hb dX5_addBicycle_13 rfl (lv_at hl 0 rfl) ?_
    refine lv_iload_n hx hb dX5_addBicycle_14 rfl (lv_at hl 1 rfl) ?_
    replace hR := bd_e hR
    obtain ⟨q15, gq15, hR⟩ := hR
    refine cl_Vi (As := [.int p1]) (rest := []) (L := [(w_X5 ad (b1) cs S1)]) (L' := [(w_X5 ad (b1) cs S1)]) (Wc := [(w_X5 ad (b1) cs S1)]) (Wc' := [(w_X5 ad (b1) cs S1)]) (is := [0]) (js := []) ⟨hx, hb, hml, hown, hts⟩ (k_X5_hasFreeDock l dC dI cs ad (b1) H5.size S1 p1 q15 gq15) (cwV 1 hts gX5_addBicycle_X5_hasFreeDock rfl rfl rfl cd_X5_hasFreeDock ⟨Nat.le_of_ble_eq_true rfl, Nat.le_of_ble_eq_true rfl⟩) hK hP hD hS hA ⟨rfl, rfl, rfl, rfl, rfl, rfl⟩ (jn_nd (is := [0]) hD rfl rfl) 0 4 rfl rfl rfl rfl rfl hl.1 (Nat.le_of_ble_eq_true rfl) dX5_addBicycle_15 (fun H15 locs15 hP' hD' hS' => ?_)
    replace hS := hS'
    replace hP : va_P (dC, dI) vwCl (fl [(w_X5 ad (b1) cs S1)]) H15 := hP'
    replace hD : va_D A (fl [(w_X5 ad (b1) cs S1)]) := hD'
    clear hP' hD' hS'
    refine lv_if_eq (tgt := 32) hx hb dX5_addBicycle_18 (by decide) (fun c18 => ?_) (fun c18 => ?_)
    · replace hR := it_t hR c18
      refine lv_bipush (v := (-2)) hx hb dX5_addBicycle_32 bp_m2 ?_
      replace hR := Option.some.inj hR
      obtain ⟨e9, hR⟩ := Prod.mk.inj hR
      have eu1 := hR
      replace hP : va_P (dC, dI) vwCl (fl [(w_X5 ad (b1) cs u1)]) H15 := by rw [← eu1]; exact hP
      replace hD : va_D A (fl [(w_X5 ad (b1) cs u1)]) := by rw [← eu1]; exact hD
      exact W.iret hx hb hr (fun t ht hW => ⟨⟨_, (), rfl, e9, by rw [ht]; exact hP, va_K.moved hW.alike hK, hD⟩, hS.F ht⟩) hS.2.2 dX5_addBicycle_34
    · replace hR := it_f hR c18
      refine lv_aload_n hx hb dX5_addBicycle_21 rfl (lv_at hl 0 rfl) ?_
      refine va_get (D := (dC, dI)) (ci := 4) (v := .ref (ad (b1 + 6))) (C := RX5) (T := TX5) (N := 6) hx hb hts hinX5 hown hK hP 0 rfl rfl 1 (by decide) hF21 (fun _ h9 => h9) rfl dX5_addBicycle_22 ?_
      refine lv_iload_n hx hb dX5_addBicycle_25 rfl (lv_at hl 1 rfl) ?_
      replace hR := bd_e hR
      obtain ⟨q26, gq26, hR⟩ := hR
      replace hP : va_P (dC, dI) vwCl (fl [[((ad b1), .inr (4, [.ref (ad (b1 + 1)), .ref (ad (b1 + 6)), .ref (ad (b1 + 13)), .ref (ad (b1 + 23)), .ref (ad (b1 + 27)), .int (S1 4 1 0)]))], (w_X6 ad (b1 + 1) cs (S1 0)), (w_X1 ad (b1 + 6) cs (S1 1)), (w_X4 ad (b1 + 13) cs (S1 2)), (w_X8 ad (b1 + 23) cs (S1 3)), [((ad (b1 + 27)), .inl (cs 0, 3, .inl (S1 4 0)))]]) H15 := hP
      replace hD : va_D A (fl [[((ad b1), .inr (4, [.ref (ad (b1 + 1)), .ref (ad (b1 + 6)), .ref (ad (b1 + 13)), .ref (ad (b1 + 23)), .ref (ad (b1 + 27)), .int (S1 4 1 0)]))], (w_X6 ad (b1 + 1) cs (S1 0)), (w_X1 ad (b1 + 6) cs (S1 1)), (w_X4 ad (b1 + 13) cs (S1 2)), (w_X8 ad (b1 + 23) cs (S1 3)), [((ad (b1 + 27)), .inl (cs 0, 3, .inl (S1 4 0)))]]) := hD
      refine cl_Vi (As := [.int p1]) (rest := []) (L := [[((ad b1), .inr (4, [.ref (ad (b1 + 1)), .ref (ad (b1 + 6)), .ref (ad (b1 + 13)), .ref (ad (b1 + 23)), .ref (ad (b1 + 27)), .int (S1 4 1 0)]))], (w_X6 ad (b1 + 1) cs (S1 0)), (w_X1 ad (b1 + 6) cs (S1 1)), (w_X4 ad (b1 + 13) cs (S1 2)), (w_X8 ad (b1 + 23) cs (S1 3)), [((ad (b1 + 27)), .inl (cs 0, 3, .inl (S1 4 0)))]]) (L' := [[((ad b1), .inr (4, [.ref (ad (b1 + 1)), .ref (ad (b1 + 6)), .ref (ad (b1 + 13)), .ref (ad (b1 + 23)), .ref (ad (b1 + 27)), .int ((sU S1 1 q26.2) 4 1 0)]))], (w_X6 ad (b1 + 1) cs ((sU S1 1 q26.2) 0)), (w_X1 ad (b1 + 6) cs ((sU S1 1 q26.2) 1)), (w_X4 ad (b1 + 13) cs ((sU S1 1 q26.2) 2)), (w_X8 ad (b1 + 23) cs ((sU S1 1 q26.2) 3)), [((ad (b1 + 27)), .inl (cs 0, 3, .inl ((sU S1 1 q26.2) 4 0)))]]) (Wc := [(w_X1 ad (b1 + 6) cs (S1 1))]) (Wc' := [(w_X1 ad (b1 + 6) cs q26.2)]) (is := [2]) (js := [0, 1, 3, 4, 5]) ⟨hx, hb, hml, hown, hts⟩ (k_X1_add l dC dI cs ad (b1 + 6) H15.size (S1 1) p1 q26.1 q26.2 gq26) (cwV 1 hts gX5_addBicycle_X1_add rfl rfl rfl cd_X1_add ⟨Nat.le_of_ble_eq_true rfl, Nat.le_of_ble_eq_true rfl⟩) hK hP hD hS hA ⟨rfl, rfl, rfl, rfl, rfl, rfl⟩ (jn_nd (is := [2]) hD rfl rfl) 6 0 rfl rfl rfl rfl rfl hl.1 (Nat.le_of_ble_eq_true rfl) dX5_addBicycle_26 (fun H26 locs26 hP' hD' hS' => ?_)
      replace hS := hS'
      have hP' : va_P (dC, dI) vwCl (fl [(w_X5 ad (b1) cs (sU S1 1 q26.2))]) H26 := hP'
      have hD' : va_D A (fl [(w_X5 ad (b1) cs (sU S1 1 q26.2))]) := hD'
      replace hR := bn_e hR
      obtain ⟨S1_26, eS1_26, hR⟩ := hR
      replace hP : va_P (dC, dI) vwCl (fl [(w_X5 ad (b1) cs S1_26)]) H26 := by rw [eS1_26]; exact hP'
      replace hD : va_D A (fl [(w_X5 ad (b1) cs S1_26)]) := by rw [eS1_26]; exact hD'
      clear hP' hD' hS'
      refine lv_goto (tgt := 34) hx hb dX5_addBicycle_29 (by decide) ?_
      replace hR := Option.some.inj hR
      obtain ⟨e9, hR⟩ := Prod.mk.inj hR
      have eu1 := hR
      replace hP : va_P (dC, dI) vwCl (fl [(w_X5 ad (b1) cs u1)]) H26 := by rw [← eu1]; exact hP
      replace hD : va_D A (fl [(w_X5 ad (b1) cs u1)]) := by rw [← eu1]; exact hD
      exact W.iret hx hb hr (fun t ht hW => ⟨⟨_, (), rfl, e9, by rw [ht]; exact hP, va_K.moved hW.alike hK, hD⟩, hS.F ht⟩) hS.2.2 dX5_addBicycle_34
  · replace hR := it_t hR c8
    refine lv_iconst (v := (-1)) hx hb dX5_addBicycle_11 ic_m1 ?_
    replace hR := Option.some.inj hR
    obtain ⟨e9, hR⟩ := Prod.mk.inj hR
    have eu1 := hR
    replace hP : va_P (dC, dI) vwCl (fl [(w_X5 ad (b1) cs u1)]) H5 := by rw [← eu1]; exact hP
    replace hD : va_D A (fl [(w_X5 ad (b1) cs u1)]) := by rw [← eu1]; exact hD
    exact W.iret hx hb hr (fun t ht hW => ⟨⟨_, (), rfl, e9, by rw [ht]; exact hP, va_K.moved hW.alike hK, hD⟩, hS.F ht⟩) hS.2.2 dX5_addBicycle_12
set_option maxHeartbeats 8000000 in
set_option maxRecDepth 100000 in
theorem k_X5_addRider (l : Launch) (dC : Nat → ClassId) (dI : Nat → Nat → Nat) (cs : Nat → ClassId) (ad : Nat → Nat) (b1 : Nat) (sz : Nat) (S1 : T3) (r : Int32) (u1 : T3) (hR : fX5_addRider S1 = some (r, u1)) : Met l yX5_addRider wsX5_addRider ({ frames := 1, cells := 0, slots := 0, locals := 20 } : Room) (va_Pc [.ref (ad b1)] (pW dC dI (tyL cs) (fl [(w_X5 ad (b1) cs S1)]) sz)) (QI dC dI (tyL cs) (va_A (fl [(w_X5 ad (b1) cs S1)]) sz) (fl [(w_X5 ad (b1) cs u1)]) r) 0 0 (va_A (fl [(w_X5 ad (b1) cs S1)]) sz) := by
  refine mt_of (own := RX5) (cc := cX5_addRider) (maxL := 1) (ret := (some .int)) (Qc := fun A => QI dC dI (tyL cs) A (fl [(w_X5 ad (b1) cs u1)]) r) rfl (by decide) rfl (Nat.le_of_ble_eq_true rfl) (fun p e s m below meth c A ls hsz hx hb hr hts hown hlocks hml hA hK hP hD hS hl => ?_)
  subst hsz
  have hl : lv_has ls 1 [(0, .ref (ad b1))] := hl
  have hF28 := hts (.fieldLink RX5 28 "DockedBikes$Road" "riders" "LDockedBikes$Riders;") (List.mem_of_getElem? (i := 1) rfl)
  have hinX5 : ∀ w ∈ wsX50, w ∈ wsX5_addRider := by decide +kernel
  refine lv_aload_n hx hb dX5_addRider_0 rfl (lv_at hl 0 rfl) ?_
  refine va_get (D := (dC, dI)) (ci := 4) (v := .ref (ad (b1 + 13))) (C := RX5) (T := TX5) (N := 6) hx hb hts hinX5 hown hK hP 0 rfl rfl 2 (by decide) hF28 (fun _ h9 => h9) rfl dX5_addRider_1 ?_
  replace hR := bd_e hR
  obtain ⟨q4, gq4, hR⟩ := hR
  replace hP : va_P (dC, dI) vwCl (fl [[((ad b1), .inr (4, [.ref (ad (b1 + 1)), .ref (ad (b1 + 6)), .ref (ad (b1 + 13)), .ref (ad (b1 + 23)), .ref (ad (b1 + 27)), .int (S1 4 1 0)]))], (w_X6 ad (b1 + 1) cs (S1 0)), (w_X1 ad (b1 + 6) cs (S1 1)), (w_X4 ad (b1 + 13) cs (S1 2)), (w_X8 ad (b1 + 23) cs (S1 3)), [((ad (b1 + 27)), .inl (cs 0, 3, .inl (S1 4 0)))]]) s.heap := hP
  replace hD : va_D A (fl [[((ad b1), .inr (4, [.ref (ad (b1 + 1)), .ref (ad (b1 + 6)), .ref (ad (b1 + 13)), .ref (ad (b1 + 23)), .ref (ad (b1 + 27)), .int (S1 4 1 0)]))], (w_X6 ad (b1 + 1) cs (S1 0)), (w_X1 ad (b1 + 6) cs (S1 1)), (w_X4 ad (b1 + 13) cs (S1 2)), (w_X8 ad (b1 + 23) cs (S1 3)), [((ad (b1 + 27)), .inl (cs 0, 3, .inl (S1 4 0)))]]) := hD
  refine cl_Vi (As := []) (rest := []) (L := [[((ad b1), .inr (4, [.ref (ad (b1 + 1)), .ref (ad (b1 + 6)), .ref (ad (b1 + 13)), .ref (ad (b1 + 23)), .ref (ad (b1 + 27)), .int (S1 4 1 0)]))], (w_X6 ad (b1 + 1) cs (S1 0)), (w_X1 ad (b1 + 6) cs (S1 1)), (w_X4 ad (b1 + 13) cs (S1 2)), (w_X8 ad (b1 + 23) cs (S1 3)), [((ad (b1 + 27)), .inl (cs 0, 3, .inl (S1 4 0)))]]) (L' := [[((ad b1), .inr (4, [.ref (ad (b1 + 1)), .ref (ad (b1 + 6)), .ref (ad (b1 + 13)), .ref (ad (b1 + 23)), .ref (ad (b1 + 27)), .int ((sU S1 2 q4.2) 4 1 0)]))], (w_X6 ad (b1 + 1) cs ((sU S1 2 q4.2) 0)), (w_X1 ad (b1 + 6) cs ((sU S1 2 q4.2) 1)), (w_X4 ad (b1 + 13) cs ((sU S1 2 q4.2) 2)), (w_X8 ad (b1 + 23) cs ((sU S1 2 q4.2) 3)), [((ad (b1 + 27)), .inl (cs 0, 3, .inl ((sU S1 2 q4.2) 4 0)))]]) (Wc := [(w_X4 ad (b1 + 13) cs (S1 2))]) (Wc' := [(w_X4 ad (b1 + 13) cs q4.2)]) (is := [3]) (js := [0, 1, 2, 4, 5]) ⟨hx, hb, hml, hown, hts⟩ (k_X4_add l dC dI cs ad (b1 + 13) s.heap.size (S1 2) q4.1 q4.2 gq4) (cwV 0 hts gX5_addRider_X4_add rfl rfl rfl cd_X4_add ⟨Nat.le_of_ble_eq_true rfl, Nat.le_of_ble_eq_true rfl⟩) hK hP hD hS hA ⟨rfl, rfl, rfl, rfl, rfl, rfl⟩ (jn_nd (is := [3]) hD rfl rfl) 13 3 rfl rfl rfl rfl rfl hl.1 (Nat.le_of_ble_eq_true rfl) dX5_addRider_4 (fun H4 locs4 hP' hD' hS' => ?_)
  replace hS := hS'
  have hP' : va_P (dC, dI) vwCl (fl [(w_X5 ad (b1) cs (sU S1 2 q4.2))]) H4 := hP'
  have hD' : va_D A (fl [(w_X5 ad (b1) cs (sU S1 2 q4.2))]) := hD'
  replace hR := bn_e hR
  obtain ⟨S1_4, eS1_4, hR⟩ := hR
  replace hP : va_P (dC, dI) vwCl (fl [(w_X5 ad (b1) cs S1_4)]) H4 := by rw [eS1_4]; exact hP'
  replace hD : va_D A (fl [(w_X5 ad (b1) cs S1_4)]) := by rw [eS1_4]; exact hD'
  clear hP' hD' hS'
  replace hR := Option.some.inj hR
  obtain ⟨e9, hR⟩ := Prod.mk.inj hR
  have eu1 := hR
  replace hP : va_P (dC, dI) vwCl (fl [(w_X5 ad (b1) cs u1)]) H4 := by rw [← eu1]; exact hP
  replace hD : va_D A (fl [(w_X5 ad (b1) cs u1)]) := by rw [← eu1]; exact hD
  exact W.iret hx hb hr (fun t ht hW => ⟨⟨_, (), rfl, e9, by rw [ht]; exact hP, va_K.moved hW.alike hK, hD⟩, hS.F ht⟩) hS.2.2 dX5_addRider_7
set_option maxHeartbeats 8000000 in
set_option maxRecDepth 100000 in
theorem k_X8_add (l : Launch) (dC : Nat → ClassId) (dI : Nat → Nat → Nat) (cs : Nat → ClassId) (ad : Nat → Nat) (b1 : Nat) (sz : Nat) (S1 : T2) (p1 : Int32) (p2 : Int32) (r : Int32) (u1 : T2) (hR : fX8_add S1 p1 p2 = some (r, u1)) : Met l yX8_add wsX8_add ({ frames := 0, cells := 0, slots := 0, locals := 0 } : Room) (va_Pc [.ref (ad b1), .int p1, .int p2] (pW dC dI (tyL cs) (fl [(w_X8 ad (b1) cs S1)]) sz)) (QI dC dI (tyL cs) (va_A (fl [(w_X8 ad (b1) cs S1)]) sz) (fl [(w_X8 ad (b1) cs u1)]) r) 0 0 (va_A (fl [(w_X8 ad (b1) cs S1)]) sz) := by
  refine mt_of (own := RX8) (cc := cX8_add) (maxL := 3) (ret := (some .int)) (Qc := fun A => QI dC dI (tyL cs) A (fl [(w_X8 ad (b1) cs u1)]) r) rfl (by decide) rfl (Nat.le_of_ble_eq_true rfl) (fun p e s m below meth c A ls hsz hx hb hr hts hown hlocks hml hA hK hP hD hS hl => ?_)
  subst hsz
  have hl : lv_has ls 3 [(0, .ref (ad b1)), (1, .int p1), (2, .int p2)] := hl
  have hF11 := hts (.fieldLink RX8 11 "DockedBikes$Vans" "station" "[I") (List.mem_of_getElem? (i := 2) rfl)
  have hF15 := hts (.fieldLink RX8 15 "DockedBikes$Vans" "room" "[I") (List.mem_of_getElem? (i := 3) rfl)
  have hF21 := hts (.fieldLink RX8 21 "DockedBikes$Vans" "size" "I") (List.mem_of_getElem? (i := 1) rfl)
  have hinX8 : ∀ w ∈ wsX80, w ∈ wsX8_add := by decide +kernel
  refine lv_aload_n hx hb dX8_add_0 rfl (lv_at hl 0 rfl) ?_
  refine va_get (D := (dC, dI)) (ci := 7) (v := .int (S1 3 0)) (C := RX8) (T := TX8) (N := 4) hx hb hts hinX8 hown hK hP 0 rfl rfl 0 (by decide) hF21 (fun _ h9 => h9) rfl dX8_add_1 ?_
  refine lv_iconst (v := 2) hx hb dX8_add_4 ic_2 ?_
  refine lv_icmp_lt (tgt := 11) hx hb dX8_add_5 (by decide) (fun c5 => ?_) (fun c5 => ?_)
  · replace hR := it_t hR c5
    refine lv_aload_n hx hb dX8_add_11 rfl (lv_at hl 0 rfl) ?_
    refine va_get (D := (dC, dI)) (ci := 7) (v := .ref (ad (b1 + 1))) (C := RX8) (T := TX8) (N := 4) hx hb hts hinX8 hown hK hP 0 rfl rfl 1 (by decide) hF11 (fun _ h9 => h9) rfl dX8_add_12 ?_
    refine lv_aload_n hx hb dX8_add_15 rfl (lv_at hl 0 rfl) ?_
    refine va_get (D := (dC, dI)) (ci := 7) (v := .int (S1 3 0)) (C := RX8) (T := TX8) (N := 4) hx hb hts hinX8 hown hK hP 0 rfl rfl 0 (by decide) hF21 (fun _ h9 => h9) rfl dX8_add_16 ?_
    refine lv_iload_n hx hb dX8_add_19 rfl (lv_at hl 1 rfl) ?_
    replace hR := gi_e hR
    obtain ⟨i20, hR⟩ := hR
    refine va_iast hx hb hK hP hD hS 1 0 rfl rfl i20 dX8_add_20 (fun H20 locs20 hP' hD' hS' => ?_)
    replace hS := hS'
    have hP' : va_P (dC, dI) vwCl (fl [(w_X8 ad (b1) cs (sU S1 0 (sU (S1 0) (S1 3 0).toNatClampNeg p1)))]) H20 := hP'
    have hD' : va_D A (fl [(w_X8 ad (b1) cs (sU S1 0 (sU (S1 0) (S1 3 0).toNatClampNeg p1)))]) := hD'
    replace hR := bn_e hR
    obtain ⟨S1_20, eS1_20, hR⟩ := hR
    replace hP : va_P (dC, dI) vwCl (fl [(w_X8 ad (b1) cs S1_20)]) H20 := by rw [eS1_20]; exact hP'
    replace hD : va_D A (fl [(w_X8 ad (b1) cs S1_20)]) := by rw [eS1_20]; exact hD'
    clear hP' hD' hS'
    refine lv_aload_n hx hb dX8_add_21 rfl (lv_at hl 0 rfl) ?_
    refine va_get (D := (dC, dI)) (ci := 7) (v := .ref (ad (b1 + 2))) (C := RX8) (T := TX8) (N := 4) hx hb hts hinX8 hown hK hP 0 rfl rfl 2 (by decide) hF15 (fun _ h9 => h9) rfl dX8_add_22 ?_
    refine lv_aload_n hx hb dX8_add_25 rfl (lv_at hl 0 rfl) ?_
    refine va_get (D := (dC, dI)) (ci := 7) (v := .int (S1_20 3 0)) (C := RX8) (T := TX8) (N := 4) hx hb hts hinX8 hown hK hP 0 rfl rfl 0 (by decide) hF21 (fun _ h9 => h9) rfl dX8_add_26 ?_
    refine lv_iload_n hx hb dX8_add_29 rfl (lv_at hl 2 rfl) ?_
    replace hR := gi_e hR
    obtain ⟨i30, hR⟩ := hR
    refine va_iast hx hb hK hP hD hS 2 0 rfl rfl i30 dX8_add_30 (fun H30 locs30 hP' hD' hS' => ?_)
    replace hS := hS'
    have hP' : va_P (dC, dI) vwCl (fl [(w_X8 ad (b1) cs (sU S1_20 1 (sU (S1_20 1) (S1_20 3 0).toNatClampNeg p2)))]) H30 := hP'
    have hD' : va_D A (fl [(w_X8 ad (b1) cs (sU S1_20 1 (sU (S1_20 1) (S1_20 3 0).toNatClampNeg p2)))]) := hD'
    replace hR := bn_e hR
    obtain ⟨S1_30, eS1_30, hR⟩ := hR
    replace hP : va_P (dC, dI) vwCl (fl [(w_X8 ad (b1) cs S1_30)]) H30 := by rw [eS1_30]; exact hP'
    replace hD : va_D A (fl [(w_X8 ad (b1) cs S1_30)]) := by rw [eS1_30]; exact hD'
    clear hP' hD' hS'
    refine lv_aload_n hx hb dX8_add_31 rfl (lv_at hl 0 rfl) ?_
    refine lv_dup hx hb dX8_add_32 rfl ?_
    refine va_get (D := (dC, dI)) (ci := 7) (v := .int (S1_30 3 0)) (C := RX8) (T := TX8) (N := 4) hx hb hts hinX8 hown hK hP 0 rfl rfl 0 (by decide) hF21 (fun _ h9 => h9) rfl dX8_add_33 ?_
    refine lv_iconst (v := 1) hx hb dX8_add_36 ic_1 ?_
    refine lv_iadd hx hb dX8_add_37 ?_
    refine va_put (D := (dC, dI)) (ci := 7) (v := .int ((S1_30 3 0) + 1)) (ty := .int) (C := RX8) (T := TX8) (N := 4) hx hb hts hinX8 tyX8 tyX8_ok nmX8 hown hK hP hD hS 0 rfl rfl 0 (by decide) hF21 (fun _ h9 => h9) rfl (by decide +kernel) rfl rfl (Nat.le_of_ble_eq_true rfl) dX8_add_38 (fun H38 locs38 hP' hD' hS' => ?_)
    replace hS := hS'
    have hP' : va_P (dC, dI) vwCl (fl [(w_X8 ad (b1) cs (sU S1_30 3 (sU (S1_30 3) 0 ((S1_30 3 0) + 1))))]) H38 := hP'
    have hD' : va_D A (fl [(w_X8 ad (b1) cs (sU S1_30 3 (sU (S1_30 3) 0 ((S1_30 3 0) + 1))))]) := hD'
    replace hR := bn_e hR
    obtain ⟨S1_38, eS1_38, hR⟩ := hR
    replace hP : va_P (dC, dI) vwCl (fl [(w_X8 ad (b1) cs S1_38)]) H38 := by rw [eS1_38]; exact hP'
    replace hD : va_D A (fl [(w_X8 ad (b1) cs S1_38)]) := by rw [eS1_38]; exact hD'
    clear hP' hD' hS'
    refine lv_aload_n hx hb dX8_add_41 rfl (lv_at hl 0 rfl) ?_
    refine va_get (D := (dC, dI)) (ci := 7) (v := .int (S1_38 3 0)) (C := RX8) (T := TX8) (N := 4) hx hb hts hinX8 hown hK hP 0 rfl rfl 0 (by decide) hF21 (fun _ h9 => h9) rfl dX8_add_42 ?_
    refine lv_iconst (v := 1) hx hb dX8_add_45 ic_1 ?_
    refine lv_isub hx hb dX8_add_46 ?_
    replace hR := Option.some.inj hR
    obtain ⟨e9, hR⟩ := Prod.mk.inj hR
    have eu1 := hR
    replace hP : va_P (dC, dI) vwCl (fl [(w_X8 ad (b1) cs u1)]) H38 := by rw [← eu1]; exact hP
    replace hD : va_D A (fl [(w_X8 ad (b1) cs u1)]) := by rw [← eu1]; exact hD
    exact W.iret hx hb hr (fun t ht hW => ⟨⟨_, (), rfl, e9, by rw [ht]; exact hP, va_K.moved hW.alike hK, hD⟩, hS.F ht⟩) hS.2.2 dX8_add_47
  · replace hR := it_f hR c5
    refine lv_bipush (v := (-3)) hx hb dX8_add_8 bp_m3 ?_
    replace hR := Option.some.inj hR
    obtain ⟨e9, hR⟩ := Prod.mk.inj hR
    have eu1 := hR
    replace hP : va_P (dC, dI) vwCl (fl [(w_X8 ad (b1) cs u1)]) s.heap := by rw [← eu1]; exact hP
    replace hD : va_D A (fl [(w_X8 ad (b1) cs u1)]) := by rw [← eu1]; exact hD
    exact W.iret hx hb hr (fun t ht hW => ⟨⟨_, (), rfl, e9, by rw [ht]; exact hP, va_K.moved hW.alike hK, hD⟩, hS.F ht⟩) hS.2.2 dX8_add_10
set_option maxHeartbeats 8000000 in
set_option maxRecDepth 100000 in
theorem k_X5_addVan (l : Launch) (dC : Nat → ClassId) (dI : Nat → Nat → Nat) (cs : Nat → ClassId) (ad : Nat → Nat) (b1 : Nat) (sz : Nat) (S1 : T3) (p1 : Int32) (p2 : Int32) (r : Int32) (u1 : T3) (hR : fX5_addVan S1 p1 p2 = some (r, u1)) : Met l yX5_addVan wsX5_addVan ({ frames := 1, cells := 0, slots := 0, locals := 22 } : Room) (va_Pc [.ref (ad b1), .int p1, .int p2] (pW dC dI (tyL cs) (fl [(w_X5 ad (b1) cs S1)]) sz)) (QI dC dI (tyL cs) (va_A (fl [(w_X5 ad (b1) cs S1)]) sz) (fl [(w_X5 ad (b1) cs u1)]) r) 0 0 (va_A (fl [(w_X5 ad (b1) cs S1)]) sz) := by
  refine mt_of (own := RX5) (cc := cX5_addVan) (maxL := 3) (ret := (some .int)) (Qc := fun A => QI dC dI (tyL cs) A (fl [(w_X5 ad (b1) cs u1)]) r) rfl (by decide) rfl (Nat.le_of_ble_eq_true rfl) (fun p e s m below meth c A ls hsz hx hb hr hts hown hlocks hml hA hK hP hD hS hl => ?_)
  subst hsz
  have hl : lv_has ls 3 [(0, .ref (ad b1)), (1, .int p1), (2, .int p2)] := hl
  have hF12 := hts (.fieldLink RX5 12 "DockedBikes$Road" "stations" "LDockedBikes$Stations;") (List.mem_of_getElem? (i := 1) rfl)
  have hF35 := hts (.fieldLink RX5 35 "DockedBikes$Road" "vans" "LDockedBikes$Vans;") (List.mem_of_getElem? (i := 2) rfl)
  have hinX5 : ∀ w ∈ wsX50, w ∈ wsX5_addVan := by decide +kernel
  refine lv_aload_n hx hb dX5_addVan_0 rfl (lv_at hl 0 rfl) ?_
  refine va_get (D := (dC, dI)) (ci := 4) (v := .ref (ad (b1 + 1))) (C := RX5) (T := TX5) (N := 6) hx hb hts hinX5 hown hK hP 0 rfl rfl 0 (by decide) hF12 (fun _ h9 => h9) rfl dX5_addVan_1 ?_
  refine lv_iload_n hx hb dX5_addVan_4 rfl (lv_at hl 1 rfl) ?_
  replace hR := bd_e hR
  obtain ⟨q5, gq5, hR⟩ := hR
  replace hP : va_P (dC, dI) vwCl (fl [[((ad b1), .inr (4, [.ref (ad (b1 + 1)), .ref (ad (b1 + 6)), .ref (ad (b1 + 13)), .ref (ad (b1 + 23)), .ref (ad (b1 + 27)), .int (S1 4 1 0)]))], (w_X6 ad (b1 + 1) cs (S1 0)), (w_X1 ad (b1 + 6) cs (S1 1)), (w_X4 ad (b1 + 13) cs (S1 2)), (w_X8 ad (b1 + 23) cs (S1 3)), [((ad (b1 + 27)), .inl (cs 0, 3, .inl (S1 4 0)))]]) s.heap := hP
  replace hD : va_D A (fl [[((ad b1), .inr (4, [.ref (ad (b1 + 1)), .ref (ad (b1 + 6)), .ref (ad (b1 + 13)), .ref (ad (b1 + 23)), .ref (ad (b1 + 27)), .int (S1 4 1 0)]))], (w_X6 ad (b1 + 1) cs (S1 0)), (w_X1 ad (b1 + 6) cs (S1 1)), (w_X4 ad (b1 + 13) cs (S1 2)), (w_X8 ad (b1 + 23) cs (S1 3)), [((ad (b1 + 27)), .inl (cs 0, 3, .inl (S1 4 0)))]]) := hD
  refine cl_Vi (As := [.int p1]) (rest := []) (L := [[((ad b1), .inr (4, [.ref (ad (b1 + 1)), .ref (ad (b1 + 6)), .ref (ad (b1 + 13)), .ref (ad (b1 + 23)), .ref (ad (b1 + 27)), .int (S1 4 1 0)]))], (w_X6 ad (b1 + 1) cs (S1 0)), (w_X1 ad (b1 + 6) cs (S1 1)), (w_X4 ad (b1 + 13) cs (S1 2)), (w_X8 ad (b1 + 23) cs (S1 3)), [((ad (b1 + 27)), .inl (cs 0, 3, .inl (S1 4 0)))]]) (L' := [[((ad b1), .inr (4, [.ref (ad (b1 + 1)), .ref (ad (b1 + 6)), .ref (ad (b1 + 13)), .ref (ad (b1 + 23)), .ref (ad (b1 + 27)), .int (S1 4 1 0)]))], (w_X6 ad (b1 + 1) cs (S1 0)), (w_X1 ad (b1 + 6) cs (S1 1)), (w_X4 ad (b1 + 13) cs (S1 2)), (w_X8 ad (b1 + 23) cs (S1 3)), [((ad (b1 + 27)), .inl (cs 0, 3, .inl (S1 4 0)))]]) (Wc := [(w_X6 ad (b1 + 1) cs (S1 0))]) (Wc' := [(w_X6 ad (b1 + 1) cs (S1 0))]) (is := [1]) (js := [0, 2, 3, 4, 5]) ⟨hx, hb, hml, hown, hts⟩ (k_X6_has l dC dI cs ad (b1 + 1) s.heap.size (S1 0) p1 q5 gq5) (cwV 1 hts gX5_addVan_X6_has rfl rfl rfl cd_X6_has ⟨Nat.le_of_ble_eq_true rfl, Nat.le_of_ble_eq_true rfl⟩) hK hP hD hS hA ⟨rfl, rfl, rfl, rfl, rfl, rfl⟩ (jn_nd (is := [1]) hD rfl rfl) 1 5 rfl rfl rfl rfl rfl hl.1 (Nat.le_of_ble_eq_true rfl) dX5_addVan_5 (fun H5 locs5 hP' hD' hS' => ?_)
  replace hS := hS'
  replace hP : va_P (dC, dI) vwCl (fl [(w_X5 ad (b1) cs S1)]) H5 := hP'
  replace hD : va_D A (fl [(w_X5 ad (b1) cs S1)]) := hD'
  clear hP' hD' hS'
  refine lv_if_eq (tgt := 22) hx hb dX5_addVan_8 (by decide) (fun c8 => ?_) (fun c8 => ?_)
  · replace hR := it_t hR c8
    refine lv_iconst (v := (-1)) hx hb dX5_addVan_22 ic_m1 ?_
    replace hR := Option.some.inj hR
    obtain ⟨e9, hR⟩ := Prod.mk.inj hR
    have eu1 := hR
    replace hP : va_P (dC, dI) vwCl (fl [(w_X5 ad (b1) cs u1)]) H5 := by rw [← eu1]; exact hP
    replace hD : va_D A (fl [(w_X5 ad (b1) cs u1)]) := by rw [← eu1]; exact hD
    exact W.iret hx hb hr (fun t ht hW => ⟨⟨_, (), rfl, e9, by rw [ht]; exact hP, va_K.moved hW.alike hK, hD⟩, hS.F ht⟩) hS.2.2 dX5_addVan_23
  · replace hR := it_f hR c8
    refine lv_iload_n hx hb dX5_addVan_11 rfl (lv_at hl 2 rfl) ?_
    refine lv_iconst (v := 1) hx hb dX5_addVan_12 ic_1 ?_
    refine lv_icmp_lt (tgt := 22) hx hb dX5_addVan_13 (by decide) (fun c13 => ?_) (fun c13 => ?_)
    · replace hR := it_t hR c13
      refine lv_iconst (v := (-1)) hx hb dX5_addVan_22 ic_m1 ?_
      replace hR := Option.some.inj hR
      obtain ⟨e9, hR⟩ := Prod.mk.inj hR
      have eu1 := hR
      replace hP : va_P (dC, dI) vwCl (fl [(w_X5 ad (b1) cs u1)]) H5 := by rw [← eu1]; exact hP
      replace hD : va_D A (fl [(w_X5 ad (b1) cs u1)]) := by rw [← eu1]; exact hD
      exact W.iret hx hb hr (fun t ht hW => ⟨⟨_, (), rfl, e9, by rw [ht]; exact hP, va_K.moved hW.alike hK, hD⟩, hS.F ht⟩) hS.2.2 dX5_addVan_23
    · replace hR := it_f hR c13
      refine lv_iload_n hx hb dX5_addVan_16 rfl (lv_at hl 2 rfl) ?_
      refine lv_bipush (v := 6) hx hb dX5_addVan_17 bp_6 ?_
      refine lv_icmp_le (tgt := 24) hx hb dX5_addVan_19 (by decide) (fun c19 => ?_) (fun c19 => ?_)
      · replace hR := it_t hR c19
        refine lv_aload_n hx hb dX5_addVan_24 rfl (lv_at hl 0 rfl) ?_
        refine va_get (D := (dC, dI)) (ci := 4) (v := .ref (ad (b1 + 23))) (C := RX5) (T := TX5) (N := 6) hx hb hts hinX5 hown hK hP 0 rfl rfl 3 (by decide) hF35 (fun _ h9 => h9) rfl dX5_addVan_25 ?_
        refine lv_iload_n hx hb dX5_addVan_28 rfl (lv_at hl 1 rfl) ?_
        refine lv_iload_n hx hb dX5_addVan_29 rfl (lv_at hl 2 rfl) ?_
        replace hR := bd_e hR
        obtain ⟨q30, gq30, hR⟩ := hR
        replace hP : va_P (dC, dI) vwCl (fl [[((ad b1), .inr (4, [.ref (ad (b1 + 1)), .ref (ad (b1 + 6)), .ref (ad (b1 + 13)), .ref (ad (b1 + 23)), .ref (ad (b1 + 27)), .int (S1 4 1 0)]))], (w_X6 ad (b1 + 1) cs (S1 0)), (w_X1 ad (b1 + 6) cs (S1 1)), (w_X4 ad (b1 + 13) cs (S1 2)), (w_X8 ad (b1 + 23) cs (S1 3)), [((ad (b1 + 27)), .inl (cs 0, 3, .inl (S1 4 0)))]]) H5 := hP
        replace hD : va_D A (fl [[((ad b1), .inr (4, [.ref (ad (b1 + 1)), .ref (ad (b1 + 6)), .ref (ad (b1 + 13)), .ref (ad (b1 + 23)), .ref (ad (b1 + 27)), .int (S1 4 1 0)]))], (w_X6 ad (b1 + 1) cs (S1 0)), (w_X1 ad (b1 + 6) cs (S1 1)), (w_X4 ad (b1 + 13) cs (S1 2)), (w_X8 ad (b1 + 23) cs (S1 3)), [((ad (b1 + 27)), .inl (cs 0, 3, .inl (S1 4 0)))]]) := hD
        refine cl_Vi (As := [.int p1, .int p2]) (rest := []) (L := [[((ad b1), .inr (4, [.ref (ad (b1 + 1)), .ref (ad (b1 + 6)), .ref (ad (b1 + 13)), .ref (ad (b1 + 23)), .ref (ad (b1 + 27)), .int (S1 4 1 0)]))], (w_X6 ad (b1 + 1) cs (S1 0)), (w_X1 ad (b1 + 6) cs (S1 1)), (w_X4 ad (b1 + 13) cs (S1 2)), (w_X8 ad (b1 + 23) cs (S1 3)), [((ad (b1 + 27)), .inl (cs 0, 3, .inl (S1 4 0)))]]) (L' := [[((ad b1), .inr (4, [.ref (ad (b1 + 1)), .ref (ad (b1 + 6)), .ref (ad (b1 + 13)), .ref (ad (b1 + 23)), .ref (ad (b1 + 27)), .int ((sU S1 3 q30.2) 4 1 0)]))], (w_X6 ad (b1 + 1) cs ((sU S1 3 q30.2) 0)), (w_X1 ad (b1 + 6) cs ((sU S1 3 q30.2) 1)), (w_X4 ad (b1 + 13) cs ((sU S1 3 q30.2) 2)), (w_X8 ad (b1 + 23) cs ((sU S1 3 q30.2) 3)), [((ad (b1 + 27)), .inl (cs 0, 3, .inl ((sU S1 3 q30.2) 4 0)))]]) (Wc := [(w_X8 ad (b1 + 23) cs (S1 3))]) (Wc' := [(w_X8 ad (b1 + 23) cs q30.2)]) (is := [4]) (js := [0, 1, 2, 3, 5]) ⟨hx, hb, hml, hown, hts⟩ (k_X8_add l dC dI cs ad (b1 + 23) H5.size (S1 3) p1 p2 q30.1 q30.2 gq30) (cwV 2 hts gX5_addVan_X8_add rfl rfl rfl cd_X8_add ⟨Nat.le_of_ble_eq_true rfl, Nat.le_of_ble_eq_true rfl⟩) hK hP hD hS hA ⟨rfl, rfl, rfl, rfl, rfl, rfl⟩ (jn_nd (is := [4]) hD rfl rfl) 23 7 rfl rfl rfl rfl rfl hl.1 (Nat.le_of_ble_eq_true rfl) dX5_addVan_30 (fun H30 locs30 hP' hD' hS' => ?_)
        replace hS := hS'
        have hP' : va_P (dC, dI) vwCl (fl [(w_X5 ad (b1) cs (sU S1 3 q30.2))]) H30 := hP'
        have hD' : va_D A (fl [(w_X5 ad (b1) cs (sU S1 3 q30.2))]) := hD'
        replace hR := bn_e hR
        obtain ⟨S1_30, eS1_30, hR⟩ := hR
        replace hP : va_P (dC, dI) vwCl (fl [(w_X5 ad (b1) cs S1_30)]) H30 := by rw [eS1_30]; exact hP'
        replace hD : va_D A (fl [(w_X5 ad (b1) cs S1_30)]) := by rw [eS1_30]; exact hD'
        clear hP' hD' hS'
        replace hR := Option.some.inj hR
        obtain ⟨e9, hR⟩ := Prod.mk.inj hR
        have eu1 := hR
        replace hP : va_P (dC, dI) vwCl (fl [(w_X5 ad (b1) cs u1)]) H30 := by rw [← eu1]; exact hP
        replace hD : va_D A (fl [(w_X5 ad (b1) cs u1)]) := by rw [← eu1]; exact hD
        exact W.iret hx hb hr (fun t ht hW => ⟨⟨_, (), rfl, e9, by rw [ht]; exact hP, va_K.moved hW.alike hK, hD⟩, hS.F ht⟩) hS.2.2 dX5_addVan_33
      · replace hR := it_f hR c19
        refine lv_iconst (v := (-1)) hx hb dX5_addVan_22 ic_m1 ?_
        replace hR := Option.some.inj hR
        obtain ⟨e9, hR⟩ := Prod.mk.inj hR
        have eu1 := hR
        replace hP : va_P (dC, dI) vwCl (fl [(w_X5 ad (b1) cs u1)]) H5 := by rw [← eu1]; exact hP
        replace hD : va_D A (fl [(w_X5 ad (b1) cs u1)]) := by rw [← eu1]; exact hD
        exact W.iret hx hb hr (fun t ht hW => ⟨⟨_, (), rfl, e9, by rw [ht]; exact hP, va_K.moved hW.alike hK, hD⟩, hS.F ht⟩) hS.2.2 dX5_addVan_23
set_option maxHeartbeats 8000000 in
set_option maxRecDepth 100000 in
theorem k_X5_sellPass (l : Launch) (dC : Nat → ClassId) (dI : Nat → Nat → Nat) (cs : Nat → ClassId) (ad : Nat → Nat) (b1 : Nat) (sz : Nat) (S1 : T3) (p1 : Int32) (r : Int32) (u1 : T3) (hR : fX5_sellPass S1 p1 = some (r, u1)) : Met l yX5_sellPass wsX5_sellPass ({ frames := 1, cells := 0, slots := 0, locals := 21 } : Room) (va_Pc [.ref (ad b1), .int p1] (pW dC dI (tyL cs) (fl [(w_X5 ad (b1) cs S1)]) sz)) (QI dC dI (tyL cs) (va_A (fl [(w_X5 ad (b1) cs S1)]) sz) (fl [(w_X5 ad (b1) cs u1)]) r) 0 0 (va_A (fl [(w_X5 ad (b1) cs S1)]) sz) := by
  refine mt_of (own := RX5) (cc := cX5_sellPass) (maxL := 3) (ret := (some .int)) (Qc := fun A => QI dC dI (tyL cs) A (fl [(w_X5 ad (b1) cs u1)]) r) rfl (by decide) rfl (Nat.le_of_ble_eq_true rfl) (fun p e s m below meth c A ls hsz hx hb hr hts hown hlocks hml hA hK hP hD hS hl => ?_)
  subst hsz
  have hl : lv_has ls 3 [(0, .ref (ad b1)), (1, .int p1)] := hl
  have hF28 := hts (.fieldLink RX5 28 "DockedBikes$Road" "riders" "LDockedBikes$Riders;") (List.mem_of_getElem? (i := 1) rfl)
  have hF39 := hts (.fieldLink RX5 39 "DockedBikes$Road" "settings" "[I") (List.mem_of_getElem? (i := 9) rfl)
  have hF62 := hts (.fieldLink RX5 62 "DockedBikes$Road" "time" "I") (List.mem_of_getElem? (i := 2) rfl)
  have hF85 := hts (.fieldLink RX5 85 "DockedBikes$Riders" "passEnd" "[I") (List.mem_of_getElem? (i := 3) rfl)
  have hF93 := hts (.fieldLink RX5 93 "DockedBikes$Riders" "passCoins" "[I") (List.mem_of_getElem? (i := 8) rfl)
  have hF96 := hts (.fieldLink RX5 96 "DockedBikes$Riders" "owed" "[I") (List.mem_of_getElem? (i := 10) rfl)
  have hinX4 : ∀ w ∈ wsX40, w ∈ wsX5_sellPass := by decide +kernel
  have hinX5 : ∀ w ∈ wsX50, w ∈ wsX5_sellPass := by decide +kernel
  refine lv_aload_n hx hb dX5_sellPass_0 rfl (lv_at hl 0 rfl) ?_
  refine va_get (D := (dC, dI)) (ci := 4) (v := .ref (ad (b1 + 13))) (C := RX5) (T := TX5) (N := 6) hx hb hts hinX5 hown hK hP 0 rfl rfl 2 (by decide) hF28 (fun _ h9 => h9) rfl dX5_sellPass_1 ?_
  refine lv_iload_n hx hb dX5_sellPass_4 rfl (lv_at hl 1 rfl) ?_
  replace hR := bd_e hR
  obtain ⟨q5, gq5, hR⟩ := hR
  replace hP : va_P (dC, dI) vwCl (fl [[((ad b1), .inr (4, [.ref (ad (b1 + 1)), .ref (ad (b1 + 6)), .ref (ad (b1 + 13)), .ref (ad (b1 + 23)), .ref (ad (b1 + 27)), .int (S1 4 1 0)]))], (w_X6 ad (b1 + 1) cs (S1 0)), (w_X1 ad (b1 + 6) cs (S1 1)), (w_X4 ad (b1 + 13) cs (S1 2)), (w_X8 ad (b1 + 23) cs (S1 3)), [((ad (b1 + 27)), .inl (cs 0, 3, .inl (S1 4 0)))]]) s.heap := hP
  replace hD : va_D A (fl [[((ad b1), .inr (4, [.ref (ad (b1 + 1)), .ref (ad (b1 + 6)), .ref (ad (b1 + 13)), .ref (ad (b1 + 23)), .ref (ad (b1 + 27)), .int (S1 4 1 0)]))], (w_X6 ad (b1 + 1) cs (S1 0)), (w_X1 ad (b1 + 6) cs (S1 1)), (w_X4 ad (b1 + 13) cs (S1 2)), (w_X8 ad (b1 + 23) cs (S1 3)), [((ad (b1 + 27)), .inl (cs 0, 3, .inl (S1 4 0)))]]) := hD
  refine cl_Vi (As := [.int p1]) (rest := []) (L := [[((ad b1), .inr (4, [.ref (ad (b1 + 1)), .ref (ad (b1 + 6)), .ref (ad (b1 + 13)), .ref (ad (b1 + 23)), .ref (ad (b1 + 27)), .int (S1 4 1 0)]))], (w_X6 ad (b1 + 1) cs (S1 0)), (w_X1 ad (b1 + 6) cs (S1 1)), (w_X4 ad (b1 + 13) cs (S1 2)), (w_X8 ad (b1 + 23) cs (S1 3)), [((ad (b1 + 27)), .inl (cs 0, 3, .inl (S1 4 0)))]]) (L' := [[((ad b1), .inr (4, [.ref (ad (b1 + 1)), .ref (ad (b1 + 6)), .ref (ad (b1 + 13)), .ref (ad (b1 + 23)), .ref (ad (b1 + 27)), .int (S1 4 1 0)]))], (w_X6 ad (b1 + 1) cs (S1 0)), (w_X1 ad (b1 + 6) cs (S1 1)), (w_X4 ad (b1 + 13) cs (S1 2)), (w_X8 ad (b1 + 23) cs (S1 3)), [((ad (b1 + 27)), .inl (cs 0, 3, .inl (S1 4 0)))]]) (Wc := [(w_X4 ad (b1 + 13) cs (S1 2))]) (Wc' := [(w_X4 ad (b1 + 13) cs (S1 2))]) (is := [3]) (js := [0, 1, 2, 4, 5]) ⟨hx, hb, hml, hown, hts⟩ (k_X4_has l dC dI cs ad (b1 + 13) s.heap.size (S1 2) p1 q5 gq5) (cwV 1 hts gX5_sellPass_X4_has rfl rfl rfl cd_X4_has ⟨Nat.le_of_ble_eq_true rfl, Nat.le_of_ble_eq_true rfl⟩) hK hP hD hS hA ⟨rfl, rfl, rfl, rfl, rfl, rfl⟩ (jn_nd (is := [3]) hD rfl rfl) 13 3 rfl rfl rfl rfl rfl hl.1 (Nat.le_of_ble_eq_true rfl) dX5_sellPass_5 (fun H5 locs5 hP' hD' hS' => ?_)
  replace hS := hS'
  replace hP : va_P (dC, dI) vwCl (fl [(w_X5 ad (b1) cs S1)]) H5 := hP'
  replace hD : va_D A (fl [(w_X5 ad (b1) cs S1)]) := hD'
  clear hP' hD' hS'
  refine lv_if_ne (tgt := 13) hx hb dX5_sellPass_8 (by decide) (fun c8 => ?_) (fun c8 => ?_)
  · replace hR := it_f hR c8
    refine lv_aload_n hx hb dX5_sellPass_13 rfl (lv_at hl 0 rfl) ?_
    refine va_get (D := (dC, dI)) (ci := 4) (v := .int (S1 4 1 0)) (C := RX5) (T := TX5) (N := 6) hx hb hts hinX5 hown hK hP 0 rfl rfl 5 (by decide) hF62 (fun _ h9 => h9) rfl dX5_sellPass_14 ?_
    refine lv_aload_n hx hb dX5_sellPass_17 rfl (lv_at hl 0 rfl) ?_
    refine va_get (D := (dC, dI)) (ci := 4) (v := .ref (ad (b1 + 13))) (C := RX5) (T := TX5) (N := 6) hx hb hts hinX5 hown hK hP 0 rfl rfl 2 (by decide) hF28 (fun _ h9 => h9) rfl dX5_sellPass_18 ?_
    refine va_get (D := (dC, dI)) (ci := 3) (v := .ref (ad (b1 + 13 + 2))) (C := RX4) (T := TX4) (N := 10) hx hb hts hinX4 hown hK hP 13 rfl rfl 2 (by decide) hF85 (fun _ h9 => h9) rfl dX5_sellPass_21 ?_
    refine lv_iload_n hx hb dX5_sellPass_24 rfl (lv_at hl 1 rfl) ?_
    replace hR := gi_e hR
    obtain ⟨i25, hR⟩ := hR
    refine va_iald hx hb hK hP 15 0 rfl rfl i25 dX5_sellPass_25 ?_
    refine va_mmax hx hb (hml.trans hl.1.symm) hown (hts (.methodLink RX5 88 Lib.Math.max.name) (List.mem_of_getElem? (i := 4) rfl)) (hts (.static Lib.Math.max.name) (List.mem_of_getElem? (i := 5) rfl)) (hts (.initialized "java/lang/Math") (List.mem_of_getElem? (i := 6) rfl)) (hts (.code Lib.Math.max.name Lib.Math.max.code 2 (some .int)) (List.mem_of_getElem? (i := 7) rfl)) (Nat.le_of_ble_eq_true rfl) (Nat.le_of_ble_eq_true rfl) (Nat.zero_le _) (Nat.zero_le _) dX5_sellPass_26 ?_
    replace hR := bn_e hR
    obtain ⟨m26, em26, hR⟩ := hR
    refine tp_e em26 ?_
    refine lv_sipush (v := 1000) hx hb dX5_sellPass_29 sp_1000 ?_
    refine lv_iadd hx hb dX5_sellPass_32 ?_
    refine lv_istore_n (lv' := [(2, .int (m26 + 1000)), (0, .ref (ad b1)), (1, .int p1)]) hx hb dX5_sellPass_33 rfl hl (Nat.le_of_ble_eq_true rfl) rfl (fun ls hl => ?_)
    refine lv_iload_n hx hb dX5_sellPass_34 rfl (lv_at hl 0 rfl) ?_
    refine lv_sipush (v := 20000) hx hb dX5_sellPass_35 sp_20000 ?_
    refine lv_icmp_le (tgt := 44) hx hb dX5_sellPass_38 (by decide) (fun c38 => ?_) (fun c38 => ?_)
    · replace hR := it_t hR c38
      refine lv_aload_n hx hb dX5_sellPass_44 rfl (lv_at hl 1 rfl) ?_
      refine va_get (D := (dC, dI)) (ci := 4) (v := .ref (ad (b1 + 13))) (C := RX5) (T := TX5) (N := 6) hx hb hts hinX5 hown hK hP 0 rfl rfl 2 (by decide) hF28 (fun _ h9 => h9) rfl dX5_sellPass_45 ?_
      refine va_get (D := (dC, dI)) (ci := 3) (v := .ref (ad (b1 + 13 + 2))) (C := RX4) (T := TX4) (N := 10) hx hb hts hinX4 hown hK hP 13 rfl rfl 2 (by decide) hF85 (fun _ h9 => h9) rfl dX5_sellPass_48 ?_
      refine lv_iload_n hx hb dX5_sellPass_51 rfl (lv_at hl 2 rfl) ?_
      refine lv_iload_n hx hb dX5_sellPass_52 rfl (lv_at hl 0 rfl) ?_
      replace hR := gi_e hR
      obtain ⟨i53, hR⟩ := hR
      refine va_iast hx hb hK hP hD hS 15 0 rfl rfl i53 dX5_sellPass_53 (fun H53 locs53 hP' hD' hS' => ?_)
      replace hS := hS'
      have hP' : va_P (dC, dI) vwCl (fl [(w_X5 ad (b1) cs (sU S1 2 (sU (S1 2) 1 (sU (S1 2 1) p1.toNatClampNeg (m26 + 1000)))))]) H53 := hP'
      have hD' : va_D A (fl [(w_X5 ad (b1) cs (sU S1 2 (sU (S1 2) 1 (sU (S1 2 1) p1.toNatClampNeg (m26 + 1000)))))]) := hD'
      replace hR := bn_e hR
      obtain ⟨S1_53, eS1_53, hR⟩ := hR
      replace hP : va_P (dC, dI) vwCl (fl [(w_X5 ad (b1) cs S1_53)]) H53 := by rw [eS1_53]; exact hP'
      replace hD : va_D A (fl [(w_X5 ad (b1) cs S1_53)]) := by rw [eS1_53]; exact hD'
      clear hP' hD' hS'
      refine lv_aload_n hx hb dX5_sellPass_54 rfl (lv_at hl 1 rfl) ?_
      refine va_get (D := (dC, dI)) (ci := 4) (v := .ref (ad (b1 + 13))) (C := RX5) (T := TX5) (N := 6) hx hb hts hinX5 hown hK hP 0 rfl rfl 2 (by decide) hF28 (fun _ h9 => h9) rfl dX5_sellPass_55 ?_
      refine va_get (D := (dC, dI)) (ci := 3) (v := .ref (ad (b1 + 13 + 3))) (C := RX4) (T := TX4) (N := 10) hx hb hts hinX4 hown hK hP 13 rfl rfl 3 (by decide) hF93 (fun _ h9 => h9) rfl dX5_sellPass_58 ?_
      refine lv_iload_n hx hb dX5_sellPass_61 rfl (lv_at hl 2 rfl) ?_
      refine lv_dup2_11 hx hb dX5_sellPass_62 rfl rfl ?_
      replace hR := gi_e hR
      obtain ⟨i63, hR⟩ := hR
      refine va_iald hx hb hK hP 16 0 rfl rfl i63 dX5_sellPass_63 ?_
      refine lv_aload_n hx hb dX5_sellPass_64 rfl (lv_at hl 1 rfl) ?_
      refine va_get (D := (dC, dI)) (ci := 4) (v := .ref (ad (b1 + 27))) (C := RX5) (T := TX5) (N := 6) hx hb hts hinX5 hown hK hP 0 rfl rfl 4 (by decide) hF39 (fun _ h9 => h9) rfl dX5_sellPass_65 ?_
      refine lv_iconst (v := 2) hx hb dX5_sellPass_68 ic_2 ?_
      refine va_iald hx hb hK hP 27 0 rfl rfl vi_2_3 dX5_sellPass_69 ?_
      refine lv_iadd hx hb dX5_sellPass_70 ?_
      replace hR := gi_e hR
      obtain ⟨i71, hR⟩ := hR
      refine va_iast hx hb hK hP hD hS 16 0 rfl rfl i71 dX5_sellPass_71 (fun H71 locs71 hP' hD' hS' => ?_)
      replace hS := hS'
      have hP' : va_P (dC, dI) vwCl (fl [(w_X5 ad (b1) cs (sU S1_53 2 (sU (S1_53 2) 2 (sU (S1_53 2 2) p1.toNatClampNeg ((S1_53 2 2 p1.toNatClampNeg) + (S1_53 4 0 (2 : Int32).toNatClampNeg))))))]) H71 := hP'
      have hD' : va_D A (fl [(w_X5 ad (b1) cs (sU S1_53 2 (sU (S1_53 2) 2 (sU (S1_53 2 2) p1.toNatClampNeg ((S1_53 2 2 p1.toNatClampNeg) + (S1_53 4 0 (2 : Int32).toNatClampNeg))))))]) := hD'
      replace hR := bn_e hR
      obtain ⟨S1_71, eS1_71, hR⟩ := hR
      replace hP : va_P (dC, dI) vwCl (fl [(w_X5 ad (b1) cs S1_71)]) H71 := by rw [eS1_71]; exact hP'
      replace hD : va_D A (fl [(w_X5 ad (b1) cs S1_71)]) := by rw [eS1_71]; exact hD'
      clear hP' hD' hS'
      refine lv_aload_n hx hb dX5_sellPass_72 rfl (lv_at hl 1 rfl) ?_
      refine va_get (D := (dC, dI)) (ci := 4) (v := .ref (ad (b1 + 13))) (C := RX5) (T := TX5) (N := 6) hx hb hts hinX5 hown hK hP 0 rfl rfl 2 (by decide) hF28 (fun _ h9 => h9) rfl dX5_sellPass_73 ?_
      refine va_get (D := (dC, dI)) (ci := 3) (v := .ref (ad (b1 + 13 + 1))) (C := RX4) (T := TX4) (N := 10) hx hb hts hinX4 hown hK hP 13 rfl rfl 1 (by decide) hF96 (fun _ h9 => h9) rfl dX5_sellPass_76 ?_
      refine lv_iload_n hx hb dX5_sellPass_79 rfl (lv_at hl 2 rfl) ?_
      refine lv_dup2_11 hx hb dX5_sellPass_80 rfl rfl ?_
      replace hR := gi_e hR
      obtain ⟨i81, hR⟩ := hR
      refine va_iald hx hb hK hP 14 0 rfl rfl i81 dX5_sellPass_81 ?_
      refine lv_aload_n hx hb dX5_sellPass_82 rfl (lv_at hl 1 rfl) ?_
      refine va_get (D := (dC, dI)) (ci := 4) (v := .ref (ad (b1 + 27))) (C := RX5) (T := TX5) (N := 6) hx hb hts hinX5 hown hK hP 0 rfl rfl 4 (by decide) hF39 (fun _ h9 => h9) rfl dX5_sellPass_83 ?_
      refine lv_iconst (v := 2) hx hb dX5_sellPass_86 ic_2 ?_
      refine va_iald hx hb hK hP 27 0 rfl rfl vi_2_3 dX5_sellPass_87 ?_
      refine lv_iadd hx hb dX5_sellPass_88 ?_
      replace hR := gi_e hR
      obtain ⟨i89, hR⟩ := hR
      refine va_iast hx hb hK hP hD hS 14 0 rfl rfl i89 dX5_sellPass_89 (fun H89 locs89 hP' hD' hS' => ?_)
      replace hS := hS'
      have hP' : va_P (dC, dI) vwCl (fl [(w_X5 ad (b1) cs (sU S1_71 2 (sU (S1_71 2) 0 (sU (S1_71 2 0) p1.toNatClampNeg ((S1_71 2 0 p1.toNatClampNeg) + (S1_71 4 0 (2 : Int32).toNatClampNeg))))))]) H89 := hP'
      have hD' : va_D A (fl [(w_X5 ad (b1) cs (sU S1_71 2 (sU (S1_71 2) 0 (sU (S1_71 2 0) p1.toNatClampNeg ((S1_71 2 0 p1.toNatClampNeg) + (S1_71 4 0 (2 : Int32).toNatClampNeg))))))]) := hD'
      replace hR := bn_e hR
      obtain ⟨S1_89, eS1_89, hR⟩ := hR
      replace hP : va_P (dC, dI) vwCl (fl [(w_X5 ad (b1) cs S1_89)]) H89 := by rw [eS1_89]; exact hP'
      replace hD : va_D A (fl [(w_X5 ad (b1) cs S1_89)]) := by rw [eS1_89]; exact hD'
      clear hP' hD' hS'
      refine lv_iload_n hx hb dX5_sellPass_90 rfl (lv_at hl 0 rfl) ?_
      replace hR := Option.some.inj hR
      obtain ⟨e9, hR⟩ := Prod.mk.inj hR
      have eu1 := hR
      replace hP : va_P (dC, dI) vwCl (fl [(w_X5 ad (b1) cs u1)]) H89 := by rw [← eu1]; exact hP
      replace hD : va_D A (fl [(w_X5 ad (b1) cs u1)]) := by rw [← eu1]; exact hD
      exact W.iret hx hb hr (fun t ht hW => ⟨⟨_, (), rfl, e9, by rw [ht]; exact hP, va_K.moved hW.alike hK, hD⟩, hS.F ht⟩) hS.2.2 dX5_sellPass_91
    · replace hR := it_f hR c38
      refine lv_bipush (v := (-3)) hx hb dX5_sellPass_41 bp_m3 ?_
      replace hR := Option.some.inj hR
      obtain ⟨e9, hR⟩ := Prod.mk.inj hR
      have eu1 := hR
      replace hP : va_P (dC, dI) vwCl (fl [(w_X5 ad (b1) cs u1)]) H5 := by rw [← eu1]; exact hP
      replace hD : va_D A (fl [(w_X5 ad (b1) cs u1)]) := by rw [← eu1]; exact hD
      exact W.iret hx hb hr (fun t ht hW => ⟨⟨_, (), rfl, e9, by rw [ht]; exact hP, va_K.moved hW.alike hK, hD⟩, hS.F ht⟩) hS.2.2 dX5_sellPass_43
  · replace hR := it_t hR c8
    refine lv_iconst (v := (-1)) hx hb dX5_sellPass_11 ic_m1 ?_
    replace hR := Option.some.inj hR
    obtain ⟨e9, hR⟩ := Prod.mk.inj hR
    have eu1 := hR
    replace hP : va_P (dC, dI) vwCl (fl [(w_X5 ad (b1) cs u1)]) H5 := by rw [← eu1]; exact hP
    replace hD : va_D A (fl [(w_X5 ad (b1) cs u1)]) := by rw [← eu1]; exact hD
    exact W.iret hx hb hr (fun t ht hW => ⟨⟨_, (), rfl, e9, by rw [ht]; exact hP, va_K.moved hW.alike hK, hD⟩, hS.F ht⟩) hS.2.2 dX5_sellPass_12
set_option maxHeartbeats 8000000 in
set_option maxRecDepth 100000 in
theorem k_X5_beginRide (l : Launch) (dC : Nat → ClassId) (dI : Nat → Nat → Nat) (cs : Nat → ClassId) (ad : Nat → Nat) (b1 : Nat) (sz : Nat) (S1 : T3) (p1 : Int32) (p2 : Int32) (r : Int32) (u1 : T3) (hR : fX5_beginRide S1 p1 p2 = some (r, u1)) : Met l yX5_beginRide wsX5_beginRide ({ frames := 3, cells := 0, slots := 0, locals := 68 } : Room) (va_Pc [.ref (ad b1), .int p1, .int p2] (pW dC dI (tyL cs) (fl [(w_X5 ad (b1) cs S1)]) sz)) (QI dC dI (tyL cs) (va_A (fl [(w_X5 ad (b1) cs S1)]) sz) (fl [(w_X5 ad (b1) cs u1)]) r) 0 0 (va_A (fl [(w_X5 ad (b1) cs S1)]) sz) := by
  refine mt_of (own := RX5) (cc := cX5_beginRide) (maxL := 5) (ret := (some .int)) (Qc := fun A => QI dC dI (tyL cs) A (fl [(w_X5 ad (b1) cs u1)]) r) rfl (by decide) rfl (Nat.le_of_ble_eq_true rfl) (fun p e s m below meth c A ls hsz hx hb hr hts hown hlocks hml hA hK hP hD hS hl => ?_)
  subst hsz
  have hl : lv_has ls 5 [(0, .ref (ad b1)), (1, .int p1), (2, .int p2)] := hl
  have hF12 := hts (.fieldLink RX5 12 "DockedBikes$Road" "stations" "LDockedBikes$Stations;") (List.mem_of_getElem? (i := 2) rfl)
  have hF21 := hts (.fieldLink RX5 21 "DockedBikes$Road" "bicycles" "LDockedBikes$Bicycles;") (List.mem_of_getElem? (i := 3) rfl)
  have hF28 := hts (.fieldLink RX5 28 "DockedBikes$Road" "riders" "LDockedBikes$Riders;") (List.mem_of_getElem? (i := 1) rfl)
  have hF39 := hts (.fieldLink RX5 39 "DockedBikes$Road" "settings" "[I") (List.mem_of_getElem? (i := 9) rfl)
  have hF62 := hts (.fieldLink RX5 62 "DockedBikes$Road" "time" "I") (List.mem_of_getElem? (i := 4) rfl)
  have hF85 := hts (.fieldLink RX5 85 "DockedBikes$Riders" "passEnd" "[I") (List.mem_of_getElem? (i := 5) rfl)
  have hF106 := hts (.fieldLink RX5 106 "DockedBikes$Riders" "bicycle" "[I") (List.mem_of_getElem? (i := 6) rfl)
  have hF109 := hts (.fieldLink RX5 109 "DockedBikes$Riders" "start" "[I") (List.mem_of_getElem? (i := 7) rfl)
  have hF112 := hts (.fieldLink RX5 112 "DockedBikes$Riders" "free" "[I") (List.mem_of_getElem? (i := 8) rfl)
  have hF115 := hts (.fieldLink RX5 115 "DockedBikes$Riders" "ground" "[I") (List.mem_of_getElem? (i := 10) rfl)
  have hF118 := hts (.fieldLink RX5 118 "DockedBikes$Riders" "told" "[I") (List.mem_of_getElem? (i := 11) rfl)
  have hF125 := hts (.fieldLink RX5 125 "DockedBikes$Stations" "began" "[I") (List.mem_of_getElem? (i := 12) rfl)
  have hinX4 : ∀ w ∈ wsX40, w ∈ wsX5_beginRide := by decide +kernel
  have hinX5 : ∀ w ∈ wsX50, w ∈ wsX5_beginRide := by decide +kernel
  have hinX6 : ∀ w ∈ wsX60, w ∈ wsX5_beginRide := by decide +kernel
  have hB146 : ∀ (S1_146h : T3) (v3_146 : Int32) (t1_146 : Int32) (t2_146 : Int32) (H : Heap) (locs : List Loc) (ls : Array Slot), fX5_beginRide_146 p1 p2 S1_146h v3_146 t1_146 t2_146 = some (r, u1) → va_P (dC, dI) vwCl (fl [(w_X5 ad (b1) cs S1_146h)]) H → va_D A (fl [(w_X5 ad (b1) cs S1_146h)]) → va_S A s.heap H locs → lv_has ls 5 [(0, .ref (ad b1)), (1, .int p1), (2, .int p2), (3, .int v3_146)] → W p l e (headSpec wsX5_beginRide ({ frames := 3, cells := 0, slots := 0, locals := 68 } : Room)).room s m ([.ref (ad b1), .int p1, .int p2] : List Value).toArray below meth c H locs 0 0 (MQ below (QI dC dI (tyL cs) A (fl [(w_X5 ad (b1) cs u1)]) r) ([.ref (ad b1), .int p1, .int p2] : List Value).toArray s 0 0 A) (F0 m 146 ls [.int t2_146, .int t1_146, .ref (ad (b1 + 13 + 8))]) := by
    intro S1_146h v3_146 t1_146 t2_146 H locs ls hR hP hD hS hl
    replace hR := gi_e hR
    obtain ⟨i146, hR⟩ := hR
    refine va_iast hx hb hK hP hD hS 21 0 rfl rfl i146 dX5_beginRide_146 (fun H146 locs146 hP' hD' hS' => ?_)
    replace hS := hS'
    have hP' : va_P (dC, dI) vwCl (fl [(w_X5 ad (b1) cs (sU S1_146h 2 (sU (S1_146h 2) 7 (sU (S1_146h 2 7) t1_146.toNatClampNeg t2_146))))]) H146 := hP'
    have hD' : va_D A (fl [(w_X5 ad (b1) cs (sU S1_146h 2 (sU (S1_146h 2) 7 (sU (S1_146h 2 7) t1_146.toNatClampNeg t2_146))))]) := hD'
    replace hR := bn_e hR
    obtain ⟨S1_146, eS1_146, hR⟩ := hR
    replace hP : va_P (dC, dI) vwCl (fl [(w_X5 ad (b1) cs S1_146)]) H146 := by rw [eS1_146]; exact hP'
    replace hD : va_D A (fl [(w_X5 ad (b1) cs S1_146)]) := by rw [eS1_146]; exact hD'
    clear hP' hD' hS'
    refine lv_aload_n hx hb dX5_beginRide_147 rfl (lv_at hl 0 rfl) ?_
    refine va_get (D := (dC, dI)) (ci := 4) (v := .ref (ad (b1 + 13))) (C := RX5) (T := TX5) (N := 6) hx hb hts hinX5 hown hK hP 0 rfl rfl 2 (by decide) hF28 (fun _ h9 => h9) rfl dX5_beginRide_148 ?_
    refine va_get (D := (dC, dI)) (ci := 3) (v := .ref (ad (b1 + 13 + 9))) (C := RX4) (T := TX4) (N := 10) hx hb hts hinX4 hown hK hP 13 rfl rfl 9 (by decide) hF118 (fun _ h9 => h9) rfl dX5_beginRide_151 ?_
    refine lv_iload_n hx hb dX5_beginRide_154 rfl (lv_at hl 1 rfl) ?_
    refine lv_iconst (v := 0) hx hb dX5_beginRide_155 ic_0 ?_
    replace hR := gi_e hR
    obtain ⟨i156, hR⟩ := hR
    refine va_iast hx hb hK hP hD hS 22 0 rfl rfl i156 dX5_beginRide_156 (fun H156 locs156 hP' hD' hS' => ?_)
    replace hS := hS'
    have hP' : va_P (dC, dI) vwCl (fl [(w_X5 ad (b1) cs (sU S1_146 2 (sU (S1_146 2) 8 (sU (S1_146 2 8) p1.toNatClampNeg (0 : Int32)))))]) H156 := hP'
    have hD' : va_D A (fl [(w_X5 ad (b1) cs (sU S1_146 2 (sU (S1_146 2) 8 (sU (S1_146 2 8) p1.toNatClampNeg (0 : Int32)))))]) := hD'
    replace hR := bn_e hR
    obtain ⟨S1_156, eS1_156, hR⟩ := hR
    replace hP : va_P (dC, dI) vwCl (fl [(w_X5 ad (b1) cs S1_156)]) H156 := by rw [eS1_156]; exact hP'
    replace hD : va_D A (fl [(w_X5 ad (b1) cs S1_156)]) := by rw [eS1_156]; exact hD'
    clear hP' hD' hS'
    refine lv_aload_n hx hb dX5_beginRide_157 rfl (lv_at hl 0 rfl) ?_
    refine va_get (D := (dC, dI)) (ci := 4) (v := .ref (ad (b1 + 6))) (C := RX5) (T := TX5) (N := 6) hx hb hts hinX5 hown hK hP 0 rfl rfl 1 (by decide) hF21 (fun _ h9 => h9) rfl dX5_beginRide_158 ?_
    refine lv_iload_n hx hb dX5_beginRide_161 rfl (lv_at hl 3 rfl) ?_
    refine lv_iconst (v := 1) hx hb dX5_beginRide_162 ic_1 ?_
    refine lv_iload_n hx hb dX5_beginRide_163 rfl (lv_at hl 1 rfl) ?_
    replace hR := bd_e hR
    obtain ⟨q164, gq164, hR⟩ := hR
    replace hP : va_P (dC, dI) vwCl (fl [[((ad b1), .inr (4, [.ref (ad (b1 + 1)), .ref (ad (b1 + 6)), .ref (ad (b1 + 13)), .ref (ad (b1 + 23)), .ref (ad (b1 + 27)), .int (S1_156 4 1 0)]))], (w_X6 ad (b1 + 1) cs (S1_156 0)), (w_X1 ad (b1 + 6) cs (S1_156 1)), (w_X4 ad (b1 + 13) cs (S1_156 2)), (w_X8 ad (b1 + 23) cs (S1_156 3)), [((ad (b1 + 27)), .inl (cs 0, 3, .inl (S1_156 4 0)))]]) H156 := hP
    replace hD : va_D A (fl [[((ad b1), .inr (4, [.ref (ad (b1 + 1)), .ref (ad (b1 + 6)), .ref (ad (b1 + 13)), .ref (ad (b1 + 23)), .ref (ad (b1 + 27)), .int (S1_156 4 1 0)]))], (w_X6 ad (b1 + 1) cs (S1_156 0)), (w_X1 ad (b1 + 6) cs (S1_156 1)), (w_X4 ad (b1 + 13) cs (S1_156 2)), (w_X8 ad (b1 + 23) cs (S1_156 3)), [((ad (b1 + 27)), .inl (cs 0, 3, .inl (S1_156 4 0)))]]) := hD
    refine cl_Vv (As := [.int v3_146, .int (1 : Int32), .int p1]) (rest := []) (L := [[((ad b1), .inr (4, [.ref (ad (b1 + 1)), .ref (ad (b1 + 6)), .ref (ad (b1 + 13)), .ref (ad (b1 + 23)), .ref (ad (b1 + 27)), .int (S1_156 4 1 0)]))], (w_X6 ad (b1 + 1) cs (S1_156 0)), (w_X1 ad (b1 + 6) cs (S1_156 1)), (w_X4 ad (b1 + 13) cs (S1_156 2)), (w_X8 ad (b1 + 23) cs (S1_156 3)), [((ad (b1 + 27)), .inl (cs 0, 3, .inl (S1_156 4 0)))]]) (L' := [[((ad b1), .inr (4, [.ref (ad (b1 + 1)), .ref (ad (b1 + 6)), .ref (ad (b1 + 13)), .ref (ad (b1 + 23)), .ref (ad (b1 + 27)), .int ((sU S1_156 1 q164) 4 1 0)]))], (w_X6 ad (b1 + 1) cs ((sU S1_156 1 q164) 0)), (w_X1 ad (b1 + 6) cs ((sU S1_156 1 q164) 1)), (w_X4 ad (b1 + 13) cs ((sU S1_156 1 q164) 2)), (w_X8 ad (b1 + 23) cs ((sU S1_156 1 q164) 3)), [((ad (b1 + 27)), .inl (cs 0, 3, .inl ((sU S1_156 1 q164) 4 0)))]]) (Wc := [(w_X1 ad (b1 + 6) cs (S1_156 1))]) (Wc' := [(w_X1 ad (b1 + 6) cs q164)]) (is := [2]) (js := [0, 1, 3, 4, 5]) ⟨hx, hb, hml, hown, hts⟩ (k_X1_bring l dC dI cs ad (b1 + 6) H156.size (S1_156 1) v3_146 (1 : Int32) p1 q164 gq164) (cwV 3 hts gX5_beginRide_X1_bring rfl rfl rfl cd_X1_bring ⟨Nat.le_of_ble_eq_true rfl, Nat.le_of_ble_eq_true rfl⟩) hK hP hD hS hA ⟨rfl, rfl, rfl, rfl, rfl, rfl⟩ (jn_nd (is := [2]) hD rfl rfl) 6 0 rfl rfl rfl rfl rfl hl.1 (Nat.le_of_ble_eq_true rfl) dX5_beginRide_164 (fun H164 locs164 hP' hD' hS' => ?_)
    replace hS := hS'
    have hP' : va_P (dC, dI) vwCl (fl [(w_X5 ad (b1) cs (sU S1_156 1 q164))]) H164 := hP'
    have hD' : va_D A (fl [(w_X5 ad (b1) cs (sU S1_156 1 q164))]) := hD'
    replace hR := bn_e hR
    obtain ⟨S1_164, eS1_164, hR⟩ := hR
    replace hP : va_P (dC, dI) vwCl (fl [(w_X5 ad (b1) cs S1_164)]) H164 := by rw [eS1_164]; exact hP'
    replace hD : va_D A (fl [(w_X5 ad (b1) cs S1_164)]) := by rw [eS1_164]; exact hD'
    clear hP' hD' hS'
    refine lv_aload_n hx hb dX5_beginRide_167 rfl (lv_at hl 0 rfl) ?_
    refine va_get (D := (dC, dI)) (ci := 4) (v := .ref (ad (b1 + 1))) (C := RX5) (T := TX5) (N := 6) hx hb hts hinX5 hown hK hP 0 rfl rfl 0 (by decide) hF12 (fun _ h9 => h9) rfl dX5_beginRide_168 ?_
    refine va_get (D := (dC, dI)) (ci := 5) (v := .ref (ad (b1 + 1 + 3))) (C := RX6) (T := TX6) (N := 5) hx hb hts hinX6 hown hK hP 1 rfl rfl 3 (by decide) hF125 (fun _ h9 => h9) rfl dX5_beginRide_171 ?_
    refine lv_iload_n hx hb dX5_beginRide_174 rfl (lv_at hl 2 rfl) ?_
    refine lv_dup2_11 hx hb dX5_beginRide_175 rfl rfl ?_
    replace hR := gi_e hR
    obtain ⟨i176, hR⟩ := hR
    refine va_iald hx hb hK hP 4 0 rfl rfl i176 dX5_beginRide_176 ?_
    refine lv_iconst (v := 1) hx hb dX5_beginRide_177 ic_1 ?_
    refine lv_iadd hx hb dX5_beginRide_178 ?_
    replace hR := gi_e hR
    obtain ⟨i179, hR⟩ := hR
    refine va_iast hx hb hK hP hD hS 4 0 rfl rfl i179 dX5_beginRide_179 (fun H179 locs179 hP' hD' hS' => ?_)
    replace hS := hS'
    have hP' : va_P (dC, dI) vwCl (fl [(w_X5 ad (b1) cs (sU S1_164 0 (sU (S1_164 0) 2 (sU (S1_164 0 2) p2.toNatClampNeg ((S1_164 0 2 p2.toNatClampNeg) + 1)))))]) H179 := hP'
    have hD' : va_D A (fl [(w_X5 ad (b1) cs (sU S1_164 0 (sU (S1_164 0) 2 (sU (S1_164 0 2) p2.toNatClampNeg ((S1_164 0 2 p2.toNatClampNeg) + 1)))))]) := hD'
    replace hR := bn_e hR
    obtain ⟨S1_179, eS1_179, hR⟩ := hR
    replace hP : va_P (dC, dI) vwCl (fl [(w_X5 ad (b1) cs S1_179)]) H179 := by rw [eS1_179]; exact hP'
    replace hD : va_D A (fl [(w_X5 ad (b1) cs S1_179)]) := by rw [eS1_179]; exact hD'
    clear hP' hD' hS'
    refine lv_iload_n hx hb dX5_beginRide_180 rfl (lv_at hl 3 rfl) ?_
    replace hR := Option.some.inj hR
    obtain ⟨e9, hR⟩ := Prod.mk.inj hR
    have eu1 := hR
    replace hP : va_P (dC, dI) vwCl (fl [(w_X5 ad (b1) cs u1)]) H179 := by rw [← eu1]; exact hP
    replace hD : va_D A (fl [(w_X5 ad (b1) cs u1)]) := by rw [← eu1]; exact hD
    exact W.iret hx hb hr (fun t ht hW => ⟨⟨_, (), rfl, e9, by rw [ht]; exact hP, va_K.moved hW.alike hK, hD⟩, hS.F ht⟩) hS.2.2 dX5_beginRide_181
  have hB127 : ∀ (S1_127h : T3) (v3_127 : Int32) (v4_127 : Int32) (t1_127 : Int32) (t2_127 : Int32) (H : Heap) (locs : List Loc) (ls : Array Slot), fX5_beginRide_127 p1 p2 S1_127h v3_127 v4_127 t1_127 t2_127 = some (r, u1) → va_P (dC, dI) vwCl (fl [(w_X5 ad (b1) cs S1_127h)]) H → va_D A (fl [(w_X5 ad (b1) cs S1_127h)]) → va_S A s.heap H locs → lv_has ls 5 [(0, .ref (ad b1)), (1, .int p1), (2, .int p2), (3, .int v3_127), (4, .int v4_127)] → W p l e (headSpec wsX5_beginRide ({ frames := 3, cells := 0, slots := 0, locals := 68 } : Room)).room s m ([.ref (ad b1), .int p1, .int p2] : List Value).toArray below meth c H locs 0 0 (MQ below (QI dC dI (tyL cs) A (fl [(w_X5 ad (b1) cs u1)]) r) ([.ref (ad b1), .int p1, .int p2] : List Value).toArray s 0 0 A) (F0 m 127 ls [.int t2_127, .int t1_127, .ref (ad (b1 + 13 + 7))]) := by
    intro S1_127h v3_127 v4_127 t1_127 t2_127 H locs ls hR hP hD hS hl
    replace hR := gi_e hR
    obtain ⟨i127, hR⟩ := hR
    refine va_iast hx hb hK hP hD hS 20 0 rfl rfl i127 dX5_beginRide_127 (fun H127 locs127 hP' hD' hS' => ?_)
    replace hS := hS'
    have hP' : va_P (dC, dI) vwCl (fl [(w_X5 ad (b1) cs (sU S1_127h 2 (sU (S1_127h 2) 6 (sU (S1_127h 2 6) t1_127.toNatClampNeg t2_127))))]) H127 := hP'
    have hD' : va_D A (fl [(w_X5 ad (b1) cs (sU S1_127h 2 (sU (S1_127h 2) 6 (sU (S1_127h 2 6) t1_127.toNatClampNeg t2_127))))]) := hD'
    replace hR := bn_e hR
    obtain ⟨S1_127, eS1_127, hR⟩ := hR
    replace hP : va_P (dC, dI) vwCl (fl [(w_X5 ad (b1) cs S1_127)]) H127 := by rw [eS1_127]; exact hP'
    replace hD : va_D A (fl [(w_X5 ad (b1) cs S1_127)]) := by rw [eS1_127]; exact hD'
    clear hP' hD' hS'
    refine lv_aload_n hx hb dX5_beginRide_128 rfl (lv_at hl 0 rfl) ?_
    refine va_get (D := (dC, dI)) (ci := 4) (v := .ref (ad (b1 + 13))) (C := RX5) (T := TX5) (N := 6) hx hb hts hinX5 hown hK hP 0 rfl rfl 2 (by decide) hF28 (fun _ h9 => h9) rfl dX5_beginRide_129 ?_
    refine va_get (D := (dC, dI)) (ci := 3) (v := .ref (ad (b1 + 13 + 8))) (C := RX4) (T := TX4) (N := 10) hx hb hts hinX4 hown hK hP 13 rfl rfl 8 (by decide) hF115 (fun _ h9 => h9) rfl dX5_beginRide_132 ?_
    refine lv_iload_n hx hb dX5_beginRide_135 rfl (lv_at hl 1 rfl) ?_
    refine lv_iload hx hb dX5_beginRide_136 (lv_at hl 4 rfl) ?_
    refine lv_if_eq (tgt := 145) hx hb dX5_beginRide_138 (by decide) (fun c138 => ?_) (fun c138 => ?_)
    · replace hR := it_t hR c138
      refine lv_iconst (v := 1) hx hb dX5_beginRide_145 ic_1 ?_
      exact hB146 S1_127 v3_127 p1 (1 : Int32) H127 _ ls hR hP hD hS (lv_sub hl [0, 1, 2, 3] rfl)
    · replace hR := it_f hR c138
      refine lv_iconst (v := 0) hx hb dX5_beginRide_141 ic_0 ?_
      refine lv_goto (tgt := 146) hx hb dX5_beginRide_142 (by decide) ?_
      exact hB146 S1_127 v3_127 p1 (0 : Int32) H127 _ ls hR hP hD hS (lv_sub hl [0, 1, 2, 3] rfl)
  have hB79 : ∀ (S1_79h : T3) (v3_79 : Int32) (t0_79 : Int32) (H : Heap) (locs : List Loc) (ls : Array Slot), fX5_beginRide_79 p1 p2 S1_79h v3_79 t0_79 = some (r, u1) → va_P (dC, dI) vwCl (fl [(w_X5 ad (b1) cs S1_79h)]) H → va_D A (fl [(w_X5 ad (b1) cs S1_79h)]) → va_S A s.heap H locs → lv_has ls 5 [(0, .ref (ad b1)), (1, .int p1), (2, .int p2), (3, .int v3_79)] → W p l e (headSpec wsX5_beginRide ({ frames := 3, cells := 0, slots := 0, locals := 68 } : Room)).room s m ([.ref (ad b1), .int p1, .int p2] : List Value).toArray below meth c H locs 0 0 (MQ below (QI dC dI (tyL cs) A (fl [(w_X5 ad (b1) cs u1)]) r) ([.ref (ad b1), .int p1, .int p2] : List Value).toArray s 0 0 A) (F0 m 79 ls [.int t0_79]) := by
    intro S1_79h v3_79 t0_79 H locs ls hR hP hD hS hl
    refine lv_istore (lv' := [(4, .int t0_79), (0, .ref (ad b1)), (1, .int p1), (2, .int p2), (3, .int v3_79)]) hx hb dX5_beginRide_79 hl (Nat.le_of_ble_eq_true rfl) rfl (fun ls hl => ?_)
    refine lv_aload_n hx hb dX5_beginRide_81 rfl (lv_at hl 1 rfl) ?_
    refine va_get (D := (dC, dI)) (ci := 4) (v := .ref (ad (b1 + 13))) (C := RX5) (T := TX5) (N := 6) hx hb hts hinX5 hown hK hP 0 rfl rfl 2 (by decide) hF28 (fun _ h9 => h9) rfl dX5_beginRide_82 ?_
    refine va_get (D := (dC, dI)) (ci := 3) (v := .ref (ad (b1 + 13 + 5))) (C := RX4) (T := TX4) (N := 10) hx hb hts hinX4 hown hK hP 13 rfl rfl 5 (by decide) hF106 (fun _ h9 => h9) rfl dX5_beginRide_85 ?_
    refine lv_iload_n hx hb dX5_beginRide_88 rfl (lv_at hl 2 rfl) ?_
    refine lv_iload_n hx hb dX5_beginRide_89 rfl (lv_at hl 4 rfl) ?_
    replace hR := gi_e hR
    obtain ⟨i90, hR⟩ := hR
    refine va_iast hx hb hK hP hD hS 18 0 rfl rfl i90 dX5_beginRide_90 (fun H90 locs90 hP' hD' hS' => ?_)
    replace hS := hS'
    have hP' : va_P (dC, dI) vwCl (fl [(w_X5 ad (b1) cs (sU S1_79h 2 (sU (S1_79h 2) 4 (sU (S1_79h 2 4) p1.toNatClampNeg v3_79))))]) H90 := hP'
    have hD' : va_D A (fl [(w_X5 ad (b1) cs (sU S1_79h 2 (sU (S1_79h 2) 4 (sU (S1_79h 2 4) p1.toNatClampNeg v3_79))))]) := hD'
    replace hR := bn_e hR
    obtain ⟨S1_90, eS1_90, hR⟩ := hR
    replace hP : va_P (dC, dI) vwCl (fl [(w_X5 ad (b1) cs S1_90)]) H90 := by rw [eS1_90]; exact hP'
    replace hD : va_D A (fl [(w_X5 ad (b1) cs S1_90)]) := by rw [eS1_90]; exact hD'
    clear hP' hD' hS'
    refine lv_aload_n hx hb dX5_beginRide_91 rfl (lv_at hl 1 rfl) ?_
    refine va_get (D := (dC, dI)) (ci := 4) (v := .ref (ad (b1 + 13))) (C := RX5) (T := TX5) (N := 6) hx hb hts hinX5 hown hK hP 0 rfl rfl 2 (by decide) hF28 (fun _ h9 => h9) rfl dX5_beginRide_92 ?_
    refine va_get (D := (dC, dI)) (ci := 3) (v := .ref (ad (b1 + 13 + 6))) (C := RX4) (T := TX4) (N := 10) hx hb hts hinX4 hown hK hP 13 rfl rfl 6 (by decide) hF109 (fun _ h9 => h9) rfl dX5_beginRide_95 ?_
    refine lv_iload_n hx hb dX5_beginRide_98 rfl (lv_at hl 2 rfl) ?_
    refine lv_aload_n hx hb dX5_beginRide_99 rfl (lv_at hl 1 rfl) ?_
    refine va_get (D := (dC, dI)) (ci := 4) (v := .int (S1_90 4 1 0)) (C := RX5) (T := TX5) (N := 6) hx hb hts hinX5 hown hK hP 0 rfl rfl 5 (by decide) hF62 (fun _ h9 => h9) rfl dX5_beginRide_100 ?_
    replace hR := gi_e hR
    obtain ⟨i103, hR⟩ := hR
    refine va_iast hx hb hK hP hD hS 19 0 rfl rfl i103 dX5_beginRide_103 (fun H103 locs103 hP' hD' hS' => ?_)
    replace hS := hS'
    have hP' : va_P (dC, dI) vwCl (fl [(w_X5 ad (b1) cs (sU S1_90 2 (sU (S1_90 2) 5 (sU (S1_90 2 5) p1.toNatClampNeg (S1_90 4 1 0)))))]) H103 := hP'
    have hD' : va_D A (fl [(w_X5 ad (b1) cs (sU S1_90 2 (sU (S1_90 2) 5 (sU (S1_90 2 5) p1.toNatClampNeg (S1_90 4 1 0)))))]) := hD'
    replace hR := bn_e hR
    obtain ⟨S1_103, eS1_103, hR⟩ := hR
    replace hP : va_P (dC, dI) vwCl (fl [(w_X5 ad (b1) cs S1_103)]) H103 := by rw [eS1_103]; exact hP'
    replace hD : va_D A (fl [(w_X5 ad (b1) cs S1_103)]) := by rw [eS1_103]; exact hD'
    clear hP' hD' hS'
    refine lv_aload_n hx hb dX5_beginRide_104 rfl (lv_at hl 1 rfl) ?_
    refine va_get (D := (dC, dI)) (ci := 4) (v := .ref (ad (b1 + 13))) (C := RX5) (T := TX5) (N := 6) hx hb hts hinX5 hown hK hP 0 rfl rfl 2 (by decide) hF28 (fun _ h9 => h9) rfl dX5_beginRide_105 ?_
    refine va_get (D := (dC, dI)) (ci := 3) (v := .ref (ad (b1 + 13 + 7))) (C := RX4) (T := TX4) (N := 10) hx hb hts hinX4 hown hK hP 13 rfl rfl 7 (by decide) hF112 (fun _ h9 => h9) rfl dX5_beginRide_108 ?_
    refine lv_iload_n hx hb dX5_beginRide_111 rfl (lv_at hl 2 rfl) ?_
    refine lv_iload hx hb dX5_beginRide_112 (lv_at hl 0 rfl) ?_
    refine lv_if_eq (tgt := 126) hx hb dX5_beginRide_114 (by decide) (fun c114 => ?_) (fun c114 => ?_)
    · replace hR := it_t hR c114
      refine lv_iconst (v := 0) hx hb dX5_beginRide_126 ic_0 ?_
      exact hB127 S1_103 v3_79 t0_79 p1 (0 : Int32) H103 _ ls hR hP hD hS (lv_sub hl [1, 2, 3, 4, 0] rfl)
    · replace hR := it_f hR c114
      refine lv_aload_n hx hb dX5_beginRide_117 rfl (lv_at hl 1 rfl) ?_
      refine va_get (D := (dC, dI)) (ci := 4) (v := .ref (ad (b1 + 27))) (C := RX5) (T := TX5) (N := 6) hx hb hts hinX5 hown hK hP 0 rfl rfl 4 (by decide) hF39 (fun _ h9 => h9) rfl dX5_beginRide_118 ?_
      refine lv_iconst (v := 0) hx hb dX5_beginRide_121 ic_0 ?_
      refine va_iald hx hb hK hP 27 0 rfl rfl vi_0_3 dX5_beginRide_122 ?_
      refine lv_goto (tgt := 127) hx hb dX5_beginRide_123 (by decide) ?_
      exact hB127 S1_103 v3_79 t0_79 p1 (S1_103 4 0 (0 : Int32).toNatClampNeg) H103 _ ls hR hP hD hS (lv_sub hl [1, 2, 3, 4, 0] rfl)
  refine lv_aload_n hx hb dX5_beginRide_0 rfl (lv_at hl 0 rfl) ?_
  refine va_get (D := (dC, dI)) (ci := 4) (v := .ref (ad (b1 + 13))) (C := RX5) (T := TX5) (N := 6) hx hb hts hinX5 hown hK hP 0 rfl rfl 2 (by decide) hF28 (fun _ h9 => h9) rfl dX5_beginRide_1 ?_
  refine lv_iload_n hx hb dX5_beginRide_4 rfl (lv_at hl 1 rfl) ?_
  replace hR := bd_e hR
  obtain ⟨q5, gq5, hR⟩ := hR
  replace hP : va_P (dC, dI) vwCl (fl [[((ad b1), .inr (4, [.ref (ad (b1 + 1)), .ref (ad (b1 + 6)), .ref (ad (b1 + 13)), .ref (ad (b1 + 23)), .ref (ad (b1 + 27)), .int (S1 4 1 0)]))], (w_X6 ad (b1 + 1) cs (S1 0)), (w_X1 ad (b1 + 6) cs (S1 1)), (w_X4 ad (b1 + 13) cs (S1 2)), (w_X8 ad (b1 + 23) cs (S1 3)), [((ad (b1 + 27)), .inl (cs 0, 3, .inl (S1 4 0)))]]) s.heap := hP
  replace hD : va_D A (fl [[((ad b1), .inr (4, [.ref (ad (b1 + 1)), .ref (ad (b1 + 6)), .ref (ad (b1 + 13)), .ref (ad (b1 + 23)), .ref (ad (b1 + 27)), .int (S1 4 1 0)]))], (w_X6 ad (b1 + 1) cs (S1 0)), (w_X1 ad (b1 + 6) cs (S1 1)), (w_X4 ad (b1 + 13) cs (S1 2)), (w_X8 ad (b1 + 23) cs (S1 3)), [((ad (b1 + 27)), .inl (cs 0, 3, .inl (S1 4 0)))]]) := hD
  refine cl_Vi (As := [.int p1]) (rest := []) (L := [[((ad b1), .inr (4, [.ref (ad (b1 + 1)), .ref (ad (b1 + 6)), .ref (ad (b1 + 13)), .ref (ad (b1 + 23)), .ref (ad (b1 + 27)), .int (S1 4 1 0)]))], (w_X6 ad (b1 + 1) cs (S1 0)), (w_X1 ad (b1 + 6) cs (S1 1)), (w_X4 ad (b1 + 13) cs (S1 2)), (w_X8 ad (b1 + 23) cs (S1 3)), [((ad (b1 + 27)), .inl (cs 0, 3, .inl (S1 4 0)))]]) (L' := [[((ad b1), .inr (4, [.ref (ad (b1 + 1)), .ref (ad (b1 + 6)), .ref (ad (b1 + 13)), .ref (ad (b1 + 23)), .ref (ad (b1 + 27)), .int (S1 4 1 0)]))], (w_X6 ad (b1 + 1) cs (S1 0)), (w_X1 ad (b1 + 6) cs (S1 1)), (w_X4 ad (b1 + 13) cs (S1 2)), (w_X8 ad (b1 + 23) cs (S1 3)), [((ad (b1 + 27)), .inl (cs 0, 3, .inl (S1 4 0)))]]) (Wc := [(w_X4 ad (b1 + 13) cs (S1 2))]) (Wc' := [(w_X4 ad (b1 + 13) cs (S1 2))]) (is := [3]) (js := [0, 1, 2, 4, 5]) ⟨hx, hb, hml, hown, hts⟩ (k_X4_has l dC dI cs ad (b1 + 13) s.heap.size (S1 2) p1 q5 gq5) (cwV 1 hts gX5_beginRide_X4_has rfl rfl rfl cd_X4_has ⟨Nat.le_of_ble_eq_true rfl, Nat.le_of_ble_eq_true rfl⟩) hK hP hD hS hA ⟨rfl, rfl, rfl, rfl, rfl, rfl⟩ (jn_nd (is := [3]) hD rfl rfl) 13 3 rfl rfl rfl rfl rfl hl.1 (Nat.le_of_ble_eq_true rfl) dX5_beginRide_5 (fun H5 locs5 hP' hD' hS' => ?_)
  replace hS := hS'
  replace hP : va_P (dC, dI) vwCl (fl [(w_X5 ad (b1) cs S1)]) H5 := hP'
  replace hD : va_D A (fl [(w_X5 ad (b1) cs S1)]) := hD'
  clear hP' hD' hS'
  refine lv_if_eq (tgt := 22) hx hb dX5_beginRide_8 (by decide) (fun c8 => ?_) (fun c8 => ?_)
  · replace hR := it_t hR c8
    refine lv_iconst (v := (-1)) hx hb dX5_beginRide_22 ic_m1 ?_
    replace hR := Option.some.inj hR
    obtain ⟨e9, hR⟩ := Prod.mk.inj hR
    have eu1 := hR
    replace hP : va_P (dC, dI) vwCl (fl [(w_X5 ad (b1) cs u1)]) H5 := by rw [← eu1]; exact hP
    replace hD : va_D A (fl [(w_X5 ad (b1) cs u1)]) := by rw [← eu1]; exact hD
    exact W.iret hx hb hr (fun t ht hW => ⟨⟨_, (), rfl, e9, by rw [ht]; exact hP, va_K.moved hW.alike hK, hD⟩, hS.F ht⟩) hS.2.2 dX5_beginRide_23
  · replace hR := it_f hR c8
    refine lv_aload_n hx hb dX5_beginRide_11 rfl (lv_at hl 0 rfl) ?_
    refine va_get (D := (dC, dI)) (ci := 4) (v := .ref (ad (b1 + 1))) (C := RX5) (T := TX5) (N := 6) hx hb hts hinX5 hown hK hP 0 rfl rfl 0 (by decide) hF12 (fun _ h9 => h9) rfl dX5_beginRide_12 ?_
    refine lv_iload_n hx hb dX5_beginRide_15 rfl (lv_at hl 2 rfl) ?_
    replace hR := bd_e hR
    obtain ⟨q16, gq16, hR⟩ := hR
    replace hP : va_P (dC, dI) vwCl (fl [[((ad b1), .inr (4, [.ref (ad (b1 + 1)), .ref (ad (b1 + 6)), .ref (ad (b1 + 13)), .ref (ad (b1 + 23)), .ref (ad (b1 + 27)), .int (S1 4 1 0)]))], (w_X6 ad (b1 + 1) cs (S1 0)), (w_X1 ad (b1 + 6) cs (S1 1)), (w_X4 ad (b1 + 13) cs (S1 2)), (w_X8 ad (b1 + 23) cs (S1 3)), [((ad (b1 + 27)), .inl (cs 0, 3, .inl (S1 4 0)))]]) H5 := hP
    replace hD : va_D A (fl [[((ad b1), .inr (4, [.ref (ad (b1 + 1)), .ref (ad (b1 + 6)), .ref (ad (b1 + 13)), .ref (ad (b1 + 23)), .ref (ad (b1 + 27)), .int (S1 4 1 0)]))], (w_X6 ad (b1 + 1) cs (S1 0)), (w_X1 ad (b1 + 6) cs (S1 1)), (w_X4 ad (b1 + 13) cs (S1 2)), (w_X8 ad (b1 + 23) cs (S1 3)), [((ad (b1 + 27)), .inl (cs 0, 3, .inl (S1 4 0)))]]) := hD
    refine cl_Vi (As := [.int p2]) (rest := []) (L := [[((ad b1), .inr (4, [.ref (ad (b1 + 1)), .ref (ad (b1 + 6)), .ref (ad (b1 + 13)), .ref (ad (b1 + 23)), .ref (ad (b1 + 27)), .int (S1 4 1 0)]))], (w_X6 ad (b1 + 1) cs (S1 0)), (w_X1 ad (b1 + 6) cs (S1 1)), (w_X4 ad (b1 + 13) cs (S1 2)), (w_X8 ad (b1 + 23) cs (S1 3)), [((ad (b1 + 27)), .inl (cs 0, 3, .inl (S1 4 0)))]]) (L' := [[((ad b1), .inr (4, [.ref (ad (b1 + 1)), .ref (ad (b1 + 6)), .ref (ad (b1 + 13)), .ref (ad (b1 + 23)), .ref (ad (b1 + 27)), .int (S1 4 1 0)]))], (w_X6 ad (b1 + 1) cs (S1 0)), (w_X1 ad (b1 + 6) cs (S1 1)), (w_X4 ad (b1 + 13) cs (S1 2)), (w_X8 ad (b1 + 23) cs (S1 3)), [((ad (b1 + 27)), .inl (cs 0, 3, .inl (S1 4 0)))]]) (Wc := [(w_X6 ad (b1 + 1) cs (S1 0))]) (Wc' := [(w_X6 ad (b1 + 1) cs (S1 0))]) (is := [1]) (js := [0, 2, 3, 4, 5]) ⟨hx, hb, hml, hown, hts⟩ (k_X6_has l dC dI cs ad (b1 + 1) H5.size (S1 0) p2 q16 gq16) (cwV 1 hts gX5_beginRide_X6_has rfl rfl rfl cd_X6_has ⟨Nat.le_of_ble_eq_true rfl, Nat.le_of_ble_eq_true rfl⟩) hK hP hD hS hA ⟨rfl, rfl, rfl, rfl, rfl, rfl⟩ (jn_nd (is := [1]) hD rfl rfl) 1 5 rfl rfl rfl rfl rfl hl.1 (Nat.le_of_ble_eq_true rfl) dX5_beginRide_16 (fun H16 locs16 hP' hD' hS' => ?_)
    replace hS := hS'
    replace hP : va_P (dC, dI) vwCl (fl [(w_X5 ad (b1) cs S1)]) H16 := hP'
    replace hD : va_D A (fl [(w_X5 ad (b1) cs S1)]) := hD'
    clear hP' hD' hS'
    refine lv_if_ne (tgt := 24) hx hb dX5_beginRide_19 (by decide) (fun c19 => ?_) (fun c19 => ?_)
    · replace hR := it_f hR c19
      refine lv_aload_n hx hb dX5_beginRide_24 rfl (lv_at hl 0 rfl) ?_
      refine va_get (D := (dC, dI)) (ci := 4) (v := .ref (ad (b1 + 6))) (C := RX5) (T := TX5) (N := 6) hx hb hts hinX5 hown hK hP 0 rfl rfl 1 (by decide) hF21 (fun _ h9 => h9) rfl dX5_beginRide_25 ?_
      refine lv_iload_n hx hb dX5_beginRide_28 rfl (lv_at hl 2 rfl) ?_
      replace hR := bd_e hR
      obtain ⟨q29, gq29, hR⟩ := hR
      replace hP : va_P (dC, dI) vwCl (fl [[((ad b1), .inr (4, [.ref (ad (b1 + 1)), .ref (ad (b1 + 6)), .ref (ad (b1 + 13)), .ref (ad (b1 + 23)), .ref (ad (b1 + 27)), .int (S1 4 1 0)]))], (w_X6 ad (b1 + 1) cs (S1 0)), (w_X1 ad (b1 + 6) cs (S1 1)), (w_X4 ad (b1 + 13) cs (S1 2)), (w_X8 ad (b1 + 23) cs (S1 3)), [((ad (b1 + 27)), .inl (cs 0, 3, .inl (S1 4 0)))]]) H16 := hP
      replace hD : va_D A (fl [[((ad b1), .inr (4, [.ref (ad (b1 + 1)), .ref (ad (b1 + 6)), .ref (ad (b1 + 13)), .ref (ad (b1 + 23)), .ref (ad (b1 + 27)), .int (S1 4 1 0)]))], (w_X6 ad (b1 + 1) cs (S1 0)), (w_X1 ad (b1 + 6) cs (S1 1)), (w_X4 ad (b1 + 13) cs (S1 2)), (w_X8 ad (b1 + 23) cs (S1 3)), [((ad (b1 + 27)), .inl (cs 0, 3, .inl (S1 4 0)))]]) := hD
      refine cl_Vi (As := [.int p2]) (rest := []) (L := [[((ad b1), .inr (4, [.ref (ad (b1 + 1)), .ref (ad (b1 + 6)), .ref (ad (b1 + 13)), .ref (ad (b1 + 23)), .ref (ad (b1 + 27)), .int (S1 4 1 0)]))], (w_X6 ad (b1 + 1) cs (S1 0)), (w_X1 ad (b1 + 6) cs (S1 1)), (w_X4 ad (b1 + 13) cs (S1 2)), (w_X8 ad (b1 + 23) cs (S1 3)), [((ad (b1 + 27)), .inl (cs 0, 3, .inl (S1 4 0)))]]) (L' := [[((ad b1), .inr (4, [.ref (ad (b1 + 1)), .ref (ad (b1 + 6)), .ref (ad (b1 + 13)), .ref (ad (b1 + 23)), .ref (ad (b1 + 27)), .int (S1 4 1 0)]))], (w_X6 ad (b1 + 1) cs (S1 0)), (w_X1 ad (b1 + 6) cs (S1 1)), (w_X4 ad (b1 + 13) cs (S1 2)), (w_X8 ad (b1 + 23) cs (S1 3)), [((ad (b1 + 27)), .inl (cs 0, 3, .inl (S1 4 0)))]]) (Wc := [(w_X1 ad (b1 + 6) cs (S1 1))]) (Wc' := [(w_X1 ad (b1 + 6) cs (S1 1))]) (is := [2]) (js := [0, 1, 3, 4, 5]) ⟨hx, hb, hml, hown, hts⟩ (k_X1_leastRiddenAt l dC dI cs ad (b1 + 6) H16.size (S1 1) p2 q29 gq29) (cwV 1 hts gX5_beginRide_X1_leastRiddenAt rfl rfl rfl cd_X1_leastRiddenAt ⟨Nat.le_of_ble_eq_true rfl, Nat.le_of_ble_eq_true rfl⟩) hK hP hD hS hA ⟨rfl, rfl, rfl, rfl, rfl, rfl⟩ (jn_nd (is := [2]) hD rfl rfl) 6 0 rfl rfl rfl rfl rfl hl.1 (Nat.le_of_ble_eq_true rfl) dX5_beginRide_29 (fun H29 locs29 hP' hD' hS' => ?_)
      replace hS := hS'
      replace hP : va_P (dC, dI) vwCl (fl [(w_X5 ad (b1) cs S1)]) H29 := hP'
      replace hD : va_D A (fl [(w_X5 ad (b1) cs S1)]) := hD'
      clear hP' hD' hS'
      refine lv_istore_n (lv' := [(3, .int q29), (0, .ref (ad b1)), (1, .int p1), (2, .int p2)]) hx hb dX5_beginRide_32 rfl hl (Nat.le_of_ble_eq_true rfl) rfl (fun ls hl => ?_)
      refine lv_aload_n hx hb dX5_beginRide_33 rfl (lv_at hl 1 rfl) ?_
      refine va_get (D := (dC, dI)) (ci := 4) (v := .ref (ad (b1 + 13))) (C := RX5) (T := TX5) (N := 6) hx hb hts hinX5 hown hK hP 0 rfl rfl 2 (by decide) hF28 (fun _ h9 => h9) rfl dX5_beginRide_34 ?_
      refine lv_iload_n hx hb dX5_beginRide_37 rfl (lv_at hl 2 rfl) ?_
      replace hR := bd_e hR
      obtain ⟨q38, gq38, hR⟩ := hR
      replace hP : va_P (dC, dI) vwCl (fl [[((ad b1), .inr (4, [.ref (ad (b1 + 1)), .ref (ad (b1 + 6)), .ref (ad (b1 + 13)), .ref (ad (b1 + 23)), .ref (ad (b1 + 27)), .int (S1 4 1 0)]))], (w_X6 ad (b1 + 1) cs (S1 0)), (w_X1 ad (b1 + 6) cs (S1 1)), (w_X4 ad (b1 + 13) cs (S1 2)), (w_X8 ad (b1 + 23) cs (S1 3)), [((ad (b1 + 27)), .inl (cs 0, 3, .inl (S1 4 0)))]]) H29 := hP
      replace hD : va_D A (fl [[((ad b1), .inr (4, [.ref (ad (b1 + 1)), .ref (ad (b1 + 6)), .ref (ad (b1 + 13)), .ref (ad (b1 + 23)), .ref (ad (b1 + 27)), .int (S1 4 1 0)]))], (w_X6 ad (b1 + 1) cs (S1 0)), (w_X1 ad (b1 + 6) cs (S1 1)), (w_X4 ad (b1 + 13) cs (S1 2)), (w_X8 ad (b1 + 23) cs (S1 3)), [((ad (b1 + 27)), .inl (cs 0, 3, .inl (S1 4 0)))]]) := hD
      refine cl_Vi (As := [.int p1]) (rest := []) (L := [[((ad b1), .inr (4, [.ref (ad (b1 + 1)), .ref (ad (b1 + 6)), .ref (ad (b1 + 13)), .ref (ad (b1 + 23)), .ref (ad (b1 + 27)), .int (S1 4 1 0)]))], (w_X6 ad (b1 + 1) cs (S1 0)), (w_X1 ad (b1 + 6) cs (S1 1)), (w_X4 ad (b1 + 13) cs (S1 2)), (w_X8 ad (b1 + 23) cs (S1 3)), [((ad (b1 + 27)), .inl (cs 0, 3, .inl (S1 4 0)))]]) (L' := [[((ad b1), .inr (4, [.ref (ad (b1 + 1)), .ref (ad (b1 + 6)), .ref (ad (b1 + 13)), .ref (ad (b1 + 23)), .ref (ad (b1 + 27)), .int (S1 4 1 0)]))], (w_X6 ad (b1 + 1) cs (S1 0)), (w_X1 ad (b1 + 6) cs (S1 1)), (w_X4 ad (b1 + 13) cs (S1 2)), (w_X8 ad (b1 + 23) cs (S1 3)), [((ad (b1 + 27)), .inl (cs 0, 3, .inl (S1 4 0)))]]) (Wc := [(w_X4 ad (b1 + 13) cs (S1 2))]) (Wc' := [(w_X4 ad (b1 + 13) cs (S1 2))]) (is := [3]) (js := [0, 1, 2, 4, 5]) ⟨hx, hb, hml, hown, hts⟩ (k_X4_hasRide l dC dI cs ad (b1 + 13) H29.size (S1 2) p1 q38 gq38) (cwV 1 hts gX5_beginRide_X4_hasRide rfl rfl rfl cd_X4_hasRide ⟨Nat.le_of_ble_eq_true rfl, Nat.le_of_ble_eq_true rfl⟩) hK hP hD hS hA ⟨rfl, rfl, rfl, rfl, rfl, rfl⟩ (jn_nd (is := [3]) hD rfl rfl) 13 3 rfl rfl rfl rfl rfl hl.1 (Nat.le_of_ble_eq_true rfl) dX5_beginRide_38 (fun H38 locs38 hP' hD' hS' => ?_)
      replace hS := hS'
      replace hP : va_P (dC, dI) vwCl (fl [(w_X5 ad (b1) cs S1)]) H38 := hP'
      replace hD : va_D A (fl [(w_X5 ad (b1) cs S1)]) := hD'
      clear hP' hD' hS'
      refine lv_if_ne (tgt := 55) hx hb dX5_beginRide_41 (by decide) (fun c41 => ?_) (fun c41 => ?_)
      · replace hR := it_f hR c41
        refine lv_bipush (v := (-2)) hx hb dX5_beginRide_55 bp_m2 ?_
        replace hR := Option.some.inj hR
        obtain ⟨e9, hR⟩ := Prod.mk.inj hR
        have eu1 := hR
        replace hP : va_P (dC, dI) vwCl (fl [(w_X5 ad (b1) cs u1)]) H38 := by rw [← eu1]; exact hP
        replace hD : va_D A (fl [(w_X5 ad (b1) cs u1)]) := by rw [← eu1]; exact hD
        exact W.iret hx hb hr (fun t ht hW => ⟨⟨_, (), rfl, e9, by rw [ht]; exact hP, va_K.moved hW.alike hK, hD⟩, hS.F ht⟩) hS.2.2 dX5_beginRide_57
      · replace hR := it_t hR c41
        refine lv_aload_n hx hb dX5_beginRide_44 rfl (lv_at hl 1 rfl) ?_
        refine va_get (D := (dC, dI)) (ci := 4) (v := .ref (ad (b1 + 6))) (C := RX5) (T := TX5) (N := 6) hx hb hts hinX5 hown hK hP 0 rfl rfl 1 (by decide) hF21 (fun _ h9 => h9) rfl dX5_beginRide_45 ?_
        refine lv_iload_n hx hb dX5_beginRide_48 rfl (lv_at hl 0 rfl) ?_
        replace hR := bd_e hR
        obtain ⟨q49, gq49, hR⟩ := hR
        replace hP : va_P (dC, dI) vwCl (fl [[((ad b1), .inr (4, [.ref (ad (b1 + 1)), .ref (ad (b1 + 6)), .ref (ad (b1 + 13)), .ref (ad (b1 + 23)), .ref (ad (b1 + 27)), .int (S1 4 1 0)]))], (w_X6 ad (b1 + 1) cs (S1 0)), (w_X1 ad (b1 + 6) cs (S1 1)), (w_X4 ad (b1 + 13) cs (S1 2)), (w_X8 ad (b1 + 23) cs (S1 3)), [((ad (b1 + 27)), .inl (cs 0, 3, .inl (S1 4 0)))]]) H38 := hP
        replace hD : va_D A (fl [[((ad b1), .inr (4, [.ref (ad (b1 + 1)), .ref (ad (b1 + 6)), .ref (ad (b1 + 13)), .ref (ad (b1 + 23)), .ref (ad (b1 + 27)), .int (S1 4 1 0)]))], (w_X6 ad (b1 + 1) cs (S1 0)), (w_X1 ad (b1 + 6) cs (S1 1)), (w_X4 ad (b1 + 13) cs (S1 2)), (w_X8 ad (b1 + 23) cs (S1 3)), [((ad (b1 + 27)), .inl (cs 0, 3, .inl (S1 4 0)))]]) := hD
        refine cl_Vi (As := [.int q29]) (rest := []) (L := [[((ad b1), .inr (4, [.ref (ad (b1 + 1)), .ref (ad (b1 + 6)), .ref (ad (b1 + 13)), .ref (ad (b1 + 23)), .ref (ad (b1 + 27)), .int (S1 4 1 0)]))], (w_X6 ad (b1 + 1) cs (S1 0)), (w_X1 ad (b1 + 6) cs (S1 1)), (w_X4 ad (b1 + 13) cs (S1 2)), (w_X8 ad (b1 + 23) cs (S1 3)), [((ad (b1 + 27)), .inl (cs 0, 3, .inl (S1 4 0)))]]) (L' := [[((ad b1), .inr (4, [.ref (ad (b1 + 1)), .ref (ad (b1 + 6)), .ref (ad (b1 + 13)), .ref (ad (b1 + 23)), .ref (ad (b1 + 27)), .int (S1 4 1 0)]))], (w_X6 ad (b1 + 1) cs (S1 0)), (w_X1 ad (b1 + 6) cs (S1 1)), (w_X4 ad (b1 + 13) cs (S1 2)), (w_X8 ad (b1 + 23) cs (S1 3)), [((ad (b1 + 27)), .inl (cs 0, 3, .inl (S1 4 0)))]]) (Wc := [(w_X1 ad (b1 + 6) cs (S1 1))]) (Wc' := [(w_X1 ad (b1 + 6) cs (S1 1))]) (is := [2]) (js := [0, 1, 3, 4, 5]) ⟨hx, hb, hml, hown, hts⟩ (k_X1_has l dC dI cs ad (b1 + 6) H38.size (S1 1) q29 q49 gq49) (cwV 1 hts gX5_beginRide_X1_has rfl rfl rfl cd_X1_has ⟨Nat.le_of_ble_eq_true rfl, Nat.le_of_ble_eq_true rfl⟩) hK hP hD hS hA ⟨rfl, rfl, rfl, rfl, rfl, rfl⟩ (jn_nd (is := [2]) hD rfl rfl) 6 0 rfl rfl rfl rfl rfl hl.1 (Nat.le_of_ble_eq_true rfl) dX5_beginRide_49 (fun H49 locs49 hP' hD' hS' => ?_)
        replace hS := hS'
        replace hP : va_P (dC, dI) vwCl (fl [(w_X5 ad (b1) cs S1)]) H49 := hP'
        replace hD : va_D A (fl [(w_X5 ad (b1) cs S1)]) := hD'
        clear hP' hD' hS'
        refine lv_if_ne (tgt := 58) hx hb dX5_beginRide_52 (by decide) (fun c52 => ?_) (fun c52 => ?_)
        · replace hR := it_f hR c52
          refine lv_aload_n hx hb dX5_beginRide_58 rfl (lv_at hl 1 rfl) ?_
          refine va_get (D := (dC, dI)) (ci := 4) (v := .int (S1 4 1 0)) (C := RX5) (T := TX5) (N := 6) hx hb hts hinX5 hown hK hP 0 rfl rfl 5 (by decide) hF62 (fun _ h9 => h9) rfl dX5_beginRide_59 ?_
          refine lv_aload_n hx hb dX5_beginRide_62 rfl (lv_at hl 1 rfl) ?_
          refine va_get (D := (dC, dI)) (ci := 4) (v := .ref (ad (b1 + 13))) (C := RX5) (T := TX5) (N := 6) hx hb hts hinX5 hown hK hP 0 rfl rfl 2 (by decide) hF28 (fun _ h9 => h9) rfl dX5_beginRide_63 ?_
          refine va_get (D := (dC, dI)) (ci := 3) (v := .ref (ad (b1 + 13 + 2))) (C := RX4) (T := TX4) (N := 10) hx hb hts hinX4 hown hK hP 13 rfl rfl 2 (by decide) hF85 (fun _ h9 => h9) rfl dX5_beginRide_66 ?_
          refine lv_iload_n hx hb dX5_beginRide_69 rfl (lv_at hl 2 rfl) ?_
          replace hR := gi_e hR
          obtain ⟨i70, hR⟩ := hR
          refine va_iald hx hb hK hP 15 0 rfl rfl i70 dX5_beginRide_70 ?_
          refine lv_icmp_ge (tgt := 78) hx hb dX5_beginRide_71 (by decide) (fun c71 => ?_) (fun c71 => ?_)
          · replace hR := it_t hR c71
            refine lv_iconst (v := 0) hx hb dX5_beginRide_78 ic_0 ?_
            exact hB79 S1 q29 (0 : Int32) H49 _ ls hR hP hD hS (lv_sub hl [1, 2, 3, 0] rfl)
          · replace hR := it_f hR c71
            refine lv_iconst (v := 1) hx hb dX5_beginRide_74 ic_1 ?_
            refine lv_goto (tgt := 79) hx hb dX5_beginRide_75 (by decide) ?_
            exact hB79 S1 q29 (1 : Int32) H49 _ ls hR hP hD hS (lv_sub hl [1, 2, 3, 0] rfl)
        · replace hR := it_t hR c52
          refine lv_bipush (v := (-2)) hx hb dX5_beginRide_55 bp_m2 ?_
          replace hR := Option.some.inj hR
          obtain ⟨e9, hR⟩ := Prod.mk.inj hR
          have eu1 := hR
          replace hP : va_P (dC, dI) vwCl (fl [(w_X5 ad (b1) cs u1)]) H49 := by rw [← eu1]; exact hP
          replace hD : va_D A (fl [(w_X5 ad (b1) cs u1)]) := by rw [← eu1]; exact hD
          exact W.iret hx hb hr (fun t ht hW => ⟨⟨_, (), rfl, e9, by rw [ht]; exact hP, va_K.moved hW.alike hK, hD⟩, hS.F ht⟩) hS.2.2 dX5_beginRide_57
    · replace hR := it_t hR c19
      refine lv_iconst (v := (-1)) hx hb dX5_beginRide_22 ic_m1 ?_
      replace hR := Option.some.inj hR
      obtain ⟨e9, hR⟩ := Prod.mk.inj hR
      have eu1 := hR
      replace hP : va_P (dC, dI) vwCl (fl [(w_X5 ad (b1) cs u1)]) H16 := by rw [← eu1]; exact hP
      replace hD : va_D A (fl [(w_X5 ad (b1) cs u1)]) := by rw [← eu1]; exact hD
      exact W.iret hx hb hr (fun t ht hW => ⟨⟨_, (), rfl, e9, by rw [ht]; exact hP, va_K.moved hW.alike hK, hD⟩, hS.F ht⟩) hS.2.2 dX5_beginRide_23
set_option maxHeartbeats 8000000 in
set_option maxRecDepth 100000 in
theorem k_X5_endRide (l : Launch) (dC : Nat → ClassId) (dI : Nat → Nat → Nat) (cs : Nat → ClassId) (ad : Nat → Nat) (b1 : Nat) (sz : Nat) (S1 : T3) (p1 : Int32) (p2 : Int32) (r : Int32) (u1 : T3) (hR : fX5_endRide S1 p1 p2 = some (r, u1)) : Met l yX5_endRide wsX5_endRide ({ frames := 3, cells := 0, slots := 0, locals := 66 } : Room) (va_Pc [.ref (ad b1), .int p1, .int p2] (pW dC dI (tyL cs) (fl [(w_X5 ad (b1) cs S1)]) sz)) (QI dC dI (tyL cs) (va_A (fl [(w_X5 ad (b1) cs S1)]) sz) (fl [(w_X5 ad (b1) cs u1)]) r) 0 0 (va_A (fl [(w_X5 ad (b1) cs S1)]) sz) := by
  refine mt_of (own := RX5) (cc := cX5_endRide) (maxL := 5) (ret := (some .int)) (Qc := fun A => QI dC dI (tyL cs) A (fl [(w_X5 ad (b1) cs u1)]) r) rfl (by decide) rfl (Nat.le_of_ble_eq_true rfl) (fun p e s m below meth c A ls hsz hx hb hr hts hown hlocks hml hA hK hP hD hS hl => ?_)
  subst hsz
  have hl : lv_has ls 5 [(0, .ref (ad b1)), (1, .int p1), (2, .int p2)] := hl
  have hF12 := hts (.fieldLink RX5 12 "DockedBikes$Road" "stations" "LDockedBikes$Stations;") (List.mem_of_getElem? (i := 2) rfl)
  have hF21 := hts (.fieldLink RX5 21 "DockedBikes$Road" "bicycles" "LDockedBikes$Bicycles;") (List.mem_of_getElem? (i := 4) rfl)
  have hF28 := hts (.fieldLink RX5 28 "DockedBikes$Road" "riders" "LDockedBikes$Riders;") (List.mem_of_getElem? (i := 1) rfl)
  have hF62 := hts (.fieldLink RX5 62 "DockedBikes$Road" "time" "I") (List.mem_of_getElem? (i := 5) rfl)
  have hF96 := hts (.fieldLink RX5 96 "DockedBikes$Riders" "owed" "[I") (List.mem_of_getElem? (i := 8) rfl)
  have hF106 := hts (.fieldLink RX5 106 "DockedBikes$Riders" "bicycle" "[I") (List.mem_of_getElem? (i := 3) rfl)
  have hF131 := hts (.fieldLink RX5 131 "DockedBikes$Bicycles" "minutes" "[I") (List.mem_of_getElem? (i := 6) rfl)
  have hF137 := hts (.fieldLink RX5 137 "DockedBikes$Bicycles" "rides" "[I") (List.mem_of_getElem? (i := 7) rfl)
  have hF140 := hts (.fieldLink RX5 140 "DockedBikes$Riders" "rides" "[I") (List.mem_of_getElem? (i := 9) rfl)
  have hF141 := hts (.fieldLink RX5 141 "DockedBikes$Stations" "ended" "[I") (List.mem_of_getElem? (i := 10) rfl)
  have hinX1 : ∀ w ∈ wsX10, w ∈ wsX5_endRide := by decide +kernel
  have hinX4 : ∀ w ∈ wsX40, w ∈ wsX5_endRide := by decide +kernel
  have hinX5 : ∀ w ∈ wsX50, w ∈ wsX5_endRide := by decide +kernel
  have hinX6 : ∀ w ∈ wsX60, w ∈ wsX5_endRide := by decide +kernel
  refine lv_aload_n hx hb dX5_endRide_0 rfl (lv_at hl 0 rfl) ?_
  refine va_get (D := (dC, dI)) (ci := 4) (v := .ref (ad (b1 + 13))) (C := RX5) (T := TX5) (N := 6) hx hb hts hinX5 hown hK hP 0 rfl rfl 2 (by decide) hF28 (fun _ h9 => h9) rfl dX5_endRide_1 ?_
  refine lv_iload_n hx hb dX5_endRide_4 rfl (lv_at hl 1 rfl) ?_
  replace hR := bd_e hR
  obtain ⟨q5, gq5, hR⟩ := hR
  replace hP : va_P (dC, dI) vwCl (fl [[((ad b1), .inr (4, [.ref (ad (b1 + 1)), .ref (ad (b1 + 6)), .ref (ad (b1 + 13)), .ref (ad (b1 + 23)), .ref (ad (b1 + 27)), .int (S1 4 1 0)]))], (w_X6 ad (b1 + 1) cs (S1 0)), (w_X1 ad (b1 + 6) cs (S1 1)), (w_X4 ad (b1 + 13) cs (S1 2)), (w_X8 ad (b1 + 23) cs (S1 3)), [((ad (b1 + 27)), .inl (cs 0, 3, .inl (S1 4 0)))]]) s.heap := hP
  replace hD : va_D A (fl [[((ad b1), .inr (4, [.ref (ad (b1 + 1)), .ref (ad (b1 + 6)), .ref (ad (b1 + 13)), .ref (ad (b1 + 23)), .ref (ad (b1 + 27)), .int (S1 4 1 0)]))], (w_X6 ad (b1 + 1) cs (S1 0)), (w_X1 ad (b1 + 6) cs (S1 1)), (w_X4 ad (b1 + 13) cs (S1 2)), (w_X8 ad (b1 + 23) cs (S1 3)), [((ad (b1 + 27)), .inl (cs 0, 3, .inl (S1 4 0)))]]) := hD
  refine cl_Vi (As := [.int p1]) (rest := []) (L := [[((ad b1), .inr (4, [.ref (ad (b1 + 1)), .ref (ad (b1 + 6)), .ref (ad (b1 + 13)), .ref (ad (b1 + 23)), .ref (ad (b1 + 27)), .int (S1 4 1 0)]))], (w_X6 ad (b1 + 1) cs (S1 0)), (w_X1 ad (b1 + 6) cs (S1 1)), (w_X4 ad (b1 + 13) cs (S1 2)), (w_X8 ad (b1 + 23) cs (S1 3)), [((ad (b1 + 27)), .inl (cs 0, 3, .inl (S1 4 0)))]]) (L' := [[((ad b1), .inr (4, [.ref (ad (b1 + 1)), .ref (ad (b1 + 6)), .ref (ad (b1 + 13)), .ref (ad (b1 + 23)), .ref (ad (b1 + 27)), .int (S1 4 1 0)]))], (w_X6 ad (b1 + 1) cs (S1 0)), (w_X1 ad (b1 + 6) cs (S1 1)), (w_X4 ad (b1 + 13) cs (S1 2)), (w_X8 ad (b1 + 23) cs (S1 3)), [((ad (b1 + 27)), .inl (cs 0, 3, .inl (S1 4 0)))]]) (Wc := [(w_X4 ad (b1 + 13) cs (S1 2))]) (Wc' := [(w_X4 ad (b1 + 13) cs (S1 2))]) (is := [3]) (js := [0, 1, 2, 4, 5]) ⟨hx, hb, hml, hown, hts⟩ (k_X4_has l dC dI cs ad (b1 + 13) s.heap.size (S1 2) p1 q5 gq5) (cwV 1 hts gX5_endRide_X4_has rfl rfl rfl cd_X4_has ⟨Nat.le_of_ble_eq_true rfl, Nat.le_of_ble_eq_true rfl⟩) hK hP hD hS hA ⟨rfl, rfl, rfl, rfl, rfl, rfl⟩ (jn_nd (is := [3]) hD rfl rfl) 13 3 rfl rfl rfl rfl rfl hl.1 (Nat.le_of_ble_eq_true rfl) dX5_endRide_5 (fun H5 locs5 hP' hD' hS' => ?_)
  replace hS := hS'
  replace hP : va_P (dC, dI) vwCl (fl [(w_X5 ad (b1) cs S1)]) H5 := hP'
  replace hD : va_D A (fl [(w_X5 ad (b1) cs S1)]) := hD'
  clear hP' hD' hS'
  refine lv_if_eq (tgt := 22) hx hb dX5_endRide_8 (by decide) (fun c8 => ?_) (fun c8 => ?_)
  · replace hR := it_t hR c8
    refine lv_iconst (v := (-1)) hx hb dX5_endRide_22 ic_m1 ?_
    replace hR := Option.some.inj hR
    obtain ⟨e9, hR⟩ := Prod.mk.inj hR
    have eu1 := hR
    replace hP : va_P (dC, dI) vwCl (fl [(w_X5 ad (b1) cs u1)]) H5 := by rw [← eu1]; exact hP
    replace hD : va_D A (fl [(w_X5 ad (b1) cs u1)]) := by rw [← eu1]; exact hD
    exact W.iret hx hb hr (fun t ht hW => ⟨⟨_, (), rfl, e9, by rw [ht]; exact hP, va_K.moved hW.alike hK, hD⟩, hS.F ht⟩) hS.2.2 dX5_endRide_23
  · replace hR := it_f hR c8
    refine lv_aload_n hx hb dX5_endRide_11 rfl (lv_at hl 0 rfl) ?_
    refine va_get (D := (dC, dI)) (ci := 4) (v := .ref (ad (b1 + 1))) (C := RX5) (T := TX5) (N := 6) hx hb hts hinX5 hown hK hP 0 rfl rfl 0 (by decide) hF12 (fun _ h9 => h9) rfl dX5_endRide_12 ?_
    refine lv_iload_n hx hb dX5_endRide_15 rfl (lv_at hl 2 rfl) ?_
    replace hR := bd_e hR
    obtain ⟨q16, gq16, hR⟩ := hR
    replace hP : va_P (dC, dI) vwCl (fl [[((ad b1), .inr (4, [.ref (ad (b1 + 1)), .ref (ad (b1 + 6)), .ref (ad (b1 + 13)), .ref (ad (b1 + 23)), .ref (ad (b1 + 27)), .int (S1 4 1 0)]))], (w_X6 ad (b1 + 1) cs (S1 0)), (w_X1 ad (b1 + 6) cs (S1 1)), (w_X4 ad (b1 + 13) cs (S1 2)), (w_X8 ad (b1 + 23) cs (S1 3)), [((ad (b1 + 27)), .inl (cs 0, 3, .inl (S1 4 0)))]]) H5 := hP
    replace hD : va_D A (fl [[((ad b1), .inr (4, [.ref (ad (b1 + 1)), .ref (ad (b1 + 6)), .ref (ad (b1 + 13)), .ref (ad (b1 + 23)), .ref (ad (b1 + 27)), .int (S1 4 1 0)]))], (w_X6 ad (b1 + 1) cs (S1 0)), (w_X1 ad (b1 + 6) cs (S1 1)), (w_X4 ad (b1 + 13) cs (S1 2)), (w_X8 ad (b1 + 23) cs (S1 3)), [((ad (b1 + 27)), .inl (cs 0, 3, .inl (S1 4 0)))]]) := hD
    refine cl_Vi (As := [.int p2]) (rest := []) (L := [[((ad b1), .inr (4, [.ref (ad (b1 + 1)), .ref (ad (b1 + 6)), .ref (ad (b1 + 13)), .ref (ad (b1 + 23)), .ref (ad (b1 + 27)), .int (S1 4 1 0)]))], (w_X6 ad (b1 + 1) cs (S1 0)), (w_X1 ad (b1 + 6) cs (S1 1)), (w_X4 ad (b1 + 13) cs (S1 2)), (w_X8 ad (b1 + 23) cs (S1 3)), [((ad (b1 + 27)), .inl (cs 0, 3, .inl (S1 4 0)))]]) (L' := [[((ad b1), .inr (4, [.ref (ad (b1 + 1)), .ref (ad (b1 + 6)), .ref (ad (b1 + 13)), .ref (ad (b1 + 23)), .ref (ad (b1 + 27)), .int (S1 4 1 0)]))], (w_X6 ad (b1 + 1) cs (S1 0)), (w_X1 ad (b1 + 6) cs (S1 1)), (w_X4 ad (b1 + 13) cs (S1 2)), (w_X8 ad (b1 + 23) cs (S1 3)), [((ad (b1 + 27)), .inl (cs 0, 3, .inl (S1 4 0)))]]) (Wc := [(w_X6 ad (b1 + 1) cs (S1 0))]) (Wc' := [(w_X6 ad (b1 + 1) cs (S1 0))]) (is := [1]) (js := [0, 2, 3, 4, 5]) ⟨hx, hb, hml, hown, hts⟩ (k_X6_has l dC dI cs ad (b1 + 1) H5.size (S1 0) p2 q16 gq16) (cwV 1 hts gX5_endRide_X6_has rfl rfl rfl cd_X6_has ⟨Nat.le_of_ble_eq_true rfl, Nat.le_of_ble_eq_true rfl⟩) hK hP hD hS hA ⟨rfl, rfl, rfl, rfl, rfl, rfl⟩ (jn_nd (is := [1]) hD rfl rfl) 1 5 rfl rfl rfl rfl rfl hl.1 (Nat.le_of_ble_eq_true rfl) dX5_endRide_16 (fun H16 locs16 hP' hD' hS' => ?_)
    replace hS := hS'
    replace hP : va_P (dC, dI) vwCl (fl [(w_X5 ad (b1) cs S1)]) H16 := hP'
    replace hD : va_D A (fl [(w_X5 ad (b1) cs S1)]) := hD'
    clear hP' hD' hS'
    refine lv_if_ne (tgt := 24) hx hb dX5_endRide_19 (by decide) (fun c19 => ?_) (fun c19 => ?_)
    · replace hR := it_f hR c19
      refine lv_aload_n hx hb dX5_endRide_24 rfl (lv_at hl 0 rfl) ?_
      refine va_get (D := (dC, dI)) (ci := 4) (v := .ref (ad (b1 + 13))) (C := RX5) (T := TX5) (N := 6) hx hb hts hinX5 hown hK hP 0 rfl rfl 2 (by decide) hF28 (fun _ h9 => h9) rfl dX5_endRide_25 ?_
      refine va_get (D := (dC, dI)) (ci := 3) (v := .ref (ad (b1 + 13 + 5))) (C := RX4) (T := TX4) (N := 10) hx hb hts hinX4 hown hK hP 13 rfl rfl 5 (by decide) hF106 (fun _ h9 => h9) rfl dX5_endRide_28 ?_
      refine lv_iload_n hx hb dX5_endRide_31 rfl (lv_at hl 1 rfl) ?_
      replace hR := gi_e hR
      obtain ⟨i32, hR⟩ := hR
      refine va_iald hx hb hK hP 18 0 rfl rfl i32 dX5_endRide_32 ?_
      refine lv_istore_n (lv' := [(3, .int (S1 2 4 p1.toNatClampNeg)), (0, .ref (ad b1)), (1, .int p1), (2, .int p2)]) hx hb dX5_endRide_33 rfl hl (Nat.le_of_ble_eq_true rfl) rfl (fun ls hl => ?_)
      refine lv_aload_n hx hb dX5_endRide_34 rfl (lv_at hl 1 rfl) ?_
      refine va_get (D := (dC, dI)) (ci := 4) (v := .ref (ad (b1 + 6))) (C := RX5) (T := TX5) (N := 6) hx hb hts hinX5 hown hK hP 0 rfl rfl 1 (by decide) hF21 (fun _ h9 => h9) rfl dX5_endRide_35 ?_
      refine lv_iload_n hx hb dX5_endRide_38 rfl (lv_at hl 0 rfl) ?_
      replace hR := bd_e hR
      obtain ⟨q39, gq39, hR⟩ := hR
      replace hP : va_P (dC, dI) vwCl (fl [[((ad b1), .inr (4, [.ref (ad (b1 + 1)), .ref (ad (b1 + 6)), .ref (ad (b1 + 13)), .ref (ad (b1 + 23)), .ref (ad (b1 + 27)), .int (S1 4 1 0)]))], (w_X6 ad (b1 + 1) cs (S1 0)), (w_X1 ad (b1 + 6) cs (S1 1)), (w_X4 ad (b1 + 13) cs (S1 2)), (w_X8 ad (b1 + 23) cs (S1 3)), [((ad (b1 + 27)), .inl (cs 0, 3, .inl (S1 4 0)))]]) H16 := hP
      replace hD : va_D A (fl [[((ad b1), .inr (4, [.ref (ad (b1 + 1)), .ref (ad (b1 + 6)), .ref (ad (b1 + 13)), .ref (ad (b1 + 23)), .ref (ad (b1 + 27)), .int (S1 4 1 0)]))], (w_X6 ad (b1 + 1) cs (S1 0)), (w_X1 ad (b1 + 6) cs (S1 1)), (w_X4 ad (b1 + 13) cs (S1 2)), (w_X8 ad (b1 + 23) cs (S1 3)), [((ad (b1 + 27)), .inl (cs 0, 3, .inl (S1 4 0)))]]) := hD
      refine cl_Vi (As := [.int (S1 2 4 p1.toNatClampNeg)]) (rest := []) (L := [[((ad b1), .inr (4, [.ref (ad (b1 + 1)), .ref (ad (b1 + 6)), .ref (ad (b1 + 13)), .ref (ad (b1 + 23)), .ref (ad (b1 + 27)), .int (S1 4 1 0)]))], (w_X6 ad (b1 + 1) cs (S1 0)), (w_X1 ad (b1 + 6) cs (S1 1)), (w_X4 ad (b1 + 13) cs (S1 2)), (w_X8 ad (b1 + 23) cs (S1 3)), [((ad (b1 + 27)), .inl (cs 0, 3, .inl (S1 4 0)))]]) (L' := [[((ad b1), .inr (4, [.ref (ad (b1 + 1)), .ref (ad (b1 + 6)), .ref (ad (b1 + 13)), .ref (ad (b1 + 23)), .ref (ad (b1 + 27)), .int (S1 4 1 0)]))], (w_X6 ad (b1 + 1) cs (S1 0)), (w_X1 ad (b1 + 6) cs (S1 1)), (w_X4 ad (b1 + 13) cs (S1 2)), (w_X8 ad (b1 + 23) cs (S1 3)), [((ad (b1 + 27)), .inl (cs 0, 3, .inl (S1 4 0)))]]) (Wc := [(w_X1 ad (b1 + 6) cs (S1 1))]) (Wc' := [(w_X1 ad (b1 + 6) cs (S1 1))]) (is := [2]) (js := [0, 1, 3, 4, 5]) ⟨hx, hb, hml, hown, hts⟩ (k_X1_has l dC dI cs ad (b1 + 6) H16.size (S1 1) (S1 2 4 p1.toNatClampNeg) q39 gq39) (cwV 1 hts gX5_endRide_X1_has rfl rfl rfl cd_X1_has ⟨Nat.le_of_ble_eq_true rfl, Nat.le_of_ble_eq_true rfl⟩) hK hP hD hS hA ⟨rfl, rfl, rfl, rfl, rfl, rfl⟩ (jn_nd (is := [2]) hD rfl rfl) 6 0 rfl rfl rfl rfl rfl hl.1 (Nat.le_of_ble_eq_true rfl) dX5_endRide_39 (fun H39 locs39 hP' hD' hS' => ?_)
      replace hS := hS'
      replace hP : va_P (dC, dI) vwCl (fl [(w_X5 ad (b1) cs S1)]) H39 := hP'
      replace hD : va_D A (fl [(w_X5 ad (b1) cs S1)]) := hD'
      clear hP' hD' hS'
      refine lv_if_eq (tgt := 53) hx hb dX5_endRide_42 (by decide) (fun c42 => ?_) (fun c42 => ?_)
      · replace hR := it_t hR c42
        refine lv_bipush (v := (-2)) hx hb dX5_endRide_53 bp_m2 ?_
        replace hR := Option.some.inj hR
        obtain ⟨e9, hR⟩ := Prod.mk.inj hR
        have eu1 := hR
        replace hP : va_P (dC, dI) vwCl (fl [(w_X5 ad (b1) cs u1)]) H39 := by rw [← eu1]; exact hP
        replace hD : va_D A (fl [(w_X5 ad (b1) cs u1)]) := by rw [← eu1]; exact hD
        exact W.iret hx hb hr (fun t ht hW => ⟨⟨_, (), rfl, e9, by rw [ht]; exact hP, va_K.moved hW.alike hK, hD⟩, hS.F ht⟩) hS.2.2 dX5_endRide_55
      · replace hR := it_f hR c42
        refine lv_aload_n hx hb dX5_endRide_45 rfl (lv_at hl 1 rfl) ?_
        refine lv_iload_n hx hb dX5_endRide_46 rfl (lv_at hl 3 rfl) ?_
        replace hR := bd_e hR
        obtain ⟨q47, gq47, hR⟩ := hR
        refine cl_Vi (As := [.int p2]) (rest := []) (L := [(w_X5 ad (b1) cs S1)]) (L' := [(w_X5 ad (b1) cs S1)]) (Wc := [(w_X5 ad (b1) cs S1)]) (Wc' := [(w_X5 ad (b1) cs S1)]) (is := [0]) (js := []) ⟨hx, hb, hml, hown, hts⟩ (k_X5_hasFreeDock l dC dI cs ad (b1) H39.size S1 p2 q47 gq47) (cwV 1 hts gX5_endRide_X5_hasFreeDock rfl rfl rfl cd_X5_hasFreeDock ⟨Nat.le_of_ble_eq_true rfl, Nat.le_of_ble_eq_true rfl⟩) hK hP hD hS hA ⟨rfl, rfl, rfl, rfl, rfl, rfl⟩ (jn_nd (is := [0]) hD rfl rfl) 0 4 rfl rfl rfl rfl rfl hl.1 (Nat.le_of_ble_eq_true rfl) dX5_endRide_47 (fun H47 locs47 hP' hD' hS' => ?_)
        replace hS := hS'
        replace hP : va_P (dC, dI) vwCl (fl [(w_X5 ad (b1) cs S1)]) H47 := hP'
        replace hD : va_D A (fl [(w_X5 ad (b1) cs S1)]) := hD'
        clear hP' hD' hS'
        refine lv_if_ne (tgt := 56) hx hb dX5_endRide_50 (by decide) (fun c50 => ?_) (fun c50 => ?_)
        · replace hR := it_f hR c50
          refine lv_aload_n hx hb dX5_endRide_56 rfl (lv_at hl 1 rfl) ?_
          refine va_get (D := (dC, dI)) (ci := 4) (v := .ref (ad (b1 + 13))) (C := RX5) (T := TX5) (N := 6) hx hb hts hinX5 hown hK hP 0 rfl rfl 2 (by decide) hF28 (fun _ h9 => h9) rfl dX5_endRide_57 ?_
          refine lv_iload_n hx hb dX5_endRide_60 rfl (lv_at hl 2 rfl) ?_
          refine lv_aload_n hx hb dX5_endRide_61 rfl (lv_at hl 1 rfl) ?_
          refine va_get (D := (dC, dI)) (ci := 4) (v := .int (S1 4 1 0)) (C := RX5) (T := TX5) (N := 6) hx hb hts hinX5 hown hK hP 0 rfl rfl 5 (by decide) hF62 (fun _ h9 => h9) rfl dX5_endRide_62 ?_
          replace hR := bd_e hR
          obtain ⟨q65, gq65, hR⟩ := hR
          replace hP : va_P (dC, dI) vwCl (fl [[((ad b1), .inr (4, [.ref (ad (b1 + 1)), .ref (ad (b1 + 6)), .ref (ad (b1 + 13)), .ref (ad (b1 + 23)), .ref (ad (b1 + 27)), .int (S1 4 1 0)]))], (w_X6 ad (b1 + 1) cs (S1 0)), (w_X1 ad (b1 + 6) cs (S1 1)), (w_X4 ad (b1 + 13) cs (S1 2)), (w_X8 ad (b1 + 23) cs (S1 3)), [((ad (b1 + 27)), .inl (cs 0, 3, .inl (S1 4 0)))]]) H47 := hP
          replace hD : va_D A (fl [[((ad b1), .inr (4, [.ref (ad (b1 + 1)), .ref (ad (b1 + 6)), .ref (ad (b1 + 13)), .ref (ad (b1 + 23)), .ref (ad (b1 + 27)), .int (S1 4 1 0)]))], (w_X6 ad (b1 + 1) cs (S1 0)), (w_X1 ad (b1 + 6) cs (S1 1)), (w_X4 ad (b1 + 13) cs (S1 2)), (w_X8 ad (b1 + 23) cs (S1 3)), [((ad (b1 + 27)), .inl (cs 0, 3, .inl (S1 4 0)))]]) := hD
          refine cl_Vi (As := [.int p1, .int (S1 4 1 0)]) (rest := []) (L := [[((ad b1), .inr (4, [.ref (ad (b1 + 1)), .ref (ad (b1 + 6)), .ref (ad (b1 + 13)), .ref (ad (b1 + 23)), .ref (ad (b1 + 27)), .int (S1 4 1 0)]))], (w_X6 ad (b1 + 1) cs (S1 0)), (w_X1 ad (b1 + 6) cs (S1 1)), (w_X4 ad (b1 + 13) cs (S1 2)), (w_X8 ad (b1 + 23) cs (S1 3)), [((ad (b1 + 27)), .inl (cs 0, 3, .inl (S1 4 0)))]]) (L' := [[((ad b1), .inr (4, [.ref (ad (b1 + 1)), .ref (ad (b1 + 6)), .ref (ad (b1 + 13)), .ref (ad (b1 + 23)), .ref (ad (b1 + 27)), .int (S1 4 1 0)]))], (w_X6 ad (b1 + 1) cs (S1 0)), (w_X1 ad (b1 + 6) cs (S1 1)), (w_X4 ad (b1 + 13) cs (S1 2)), (w_X8 ad (b1 + 23) cs (S1 3)), [((ad (b1 + 27)), .inl (cs 0, 3, .inl (S1 4 0)))]]) (Wc := [(w_X4 ad (b1 + 13) cs (S1 2))]) (Wc' := [(w_X4 ad (b1 + 13) cs (S1 2))]) (is := [3]) (js := [0, 1, 2, 4, 5]) ⟨hx, hb, hml, hown, hts⟩ (k_X4_fee l dC dI cs ad (b1 + 13) H47.size (S1 2) p1 (S1 4 1 0) q65 gq65) (cwV 2 hts gX5_endRide_X4_fee rfl rfl rfl cd_X4_fee ⟨Nat.le_of_ble_eq_true rfl, Nat.le_of_ble_eq_true rfl⟩) hK hP hD hS hA ⟨rfl, rfl, rfl, rfl, rfl, rfl⟩ (jn_nd (is := [3]) hD rfl rfl) 13 3 rfl rfl rfl rfl rfl hl.1 (Nat.le_of_ble_eq_true rfl) dX5_endRide_65 (fun H65 locs65 hP' hD' hS' => ?_)
          replace hS := hS'
          replace hP : va_P (dC, dI) vwCl (fl [(w_X5 ad (b1) cs S1)]) H65 := hP'
          replace hD : va_D A (fl [(w_X5 ad (b1) cs S1)]) := hD'
          clear hP' hD' hS'
          refine lv_istore (lv' := [(4, .int q65), (3, .int (S1 2 4 p1.toNatClampNeg)), (0, .ref (ad b1)), (1, .int p1), (2, .int p2)]) hx hb dX5_endRide_68 hl (Nat.le_of_ble_eq_true rfl) rfl (fun ls hl => ?_)
          refine lv_aload_n hx hb dX5_endRide_70 rfl (lv_at hl 2 rfl) ?_
          refine va_get (D := (dC, dI)) (ci := 4) (v := .ref (ad (b1 + 6))) (C := RX5) (T := TX5) (N := 6) hx hb hts hinX5 hown hK hP 0 rfl rfl 1 (by decide) hF21 (fun _ h9 => h9) rfl dX5_endRide_71 ?_
          refine va_get (D := (dC, dI)) (ci := 0) (v := .ref (ad (b1 + 6 + 3))) (C := RX1) (T := TX1) (N := 7) hx hb hts hinX1 hown hK hP 6 rfl rfl 3 (by decide) hF131 (fun _ h9 => h9) rfl dX5_endRide_74 ?_
          refine lv_iload_n hx hb dX5_endRide_77 rfl (lv_at hl 1 rfl) ?_
          refine lv_dup2_11 hx hb dX5_endRide_78 rfl rfl ?_
          replace hR := gi_e hR
          obtain ⟨i79, hR⟩ := hR
          refine va_iald hx hb hK hP 9 0 rfl rfl i79 dX5_endRide_79 ?_
          refine lv_aload_n hx hb dX5_endRide_80 rfl (lv_at hl 2 rfl) ?_
          refine va_get (D := (dC, dI)) (ci := 4) (v := .ref (ad (b1 + 13))) (C := RX5) (T := TX5) (N := 6) hx hb hts hinX5 hown hK hP 0 rfl rfl 2 (by decide) hF28 (fun _ h9 => h9) rfl dX5_endRide_81 ?_
          refine lv_iload_n hx hb dX5_endRide_84 rfl (lv_at hl 3 rfl) ?_
          refine lv_aload_n hx hb dX5_endRide_85 rfl (lv_at hl 2 rfl) ?_
          refine va_get (D := (dC, dI)) (ci := 4) (v := .int (S1 4 1 0)) (C := RX5) (T := TX5) (N := 6) hx hb hts hinX5 hown hK hP 0 rfl rfl 5 (by decide) hF62 (fun _ h9 => h9) rfl dX5_endRide_86 ?_
          replace hR := bd_e hR
          obtain ⟨q89, gq89, hR⟩ := hR
          replace hP : va_P (dC, dI) vwCl (fl [[((ad b1), .inr (4, [.ref (ad (b1 + 1)), .ref (ad (b1 + 6)), .ref (ad (b1 + 13)), .ref (ad (b1 + 23)), .ref (ad (b1 + 27)), .int (S1 4 1 0)]))], (w_X6 ad (b1 + 1) cs (S1 0)), (w_X1 ad (b1 + 6) cs (S1 1)), (w_X4 ad (b1 + 13) cs (S1 2)), (w_X8 ad (b1 + 23) cs (S1 3)), [((ad (b1 + 27)), .inl (cs 0, 3, .inl (S1 4 0)))]]) H65 := hP
          replace hD : va_D A (fl [[((ad b1), .inr (4, [.ref (ad (b1 + 1)), .ref (ad (b1 + 6)), .ref (ad (b1 + 13)), .ref (ad (b1 + 23)), .ref (ad (b1 + 27)), .int (S1 4 1 0)]))], (w_X6 ad (b1 + 1) cs (S1 0)), (w_X1 ad (b1 + 6) cs (S1 1)), (w_X4 ad (b1 + 13) cs (S1 2)), (w_X8 ad (b1 + 23) cs (S1 3)), [((ad (b1 + 27)), .inl (cs 0, 3, .inl (S1 4 0)))]]) := hD
          refine cl_Vi (As := [.int p1, .int (S1 4 1 0)]) (rest := [.int (S1 1 2 (S1 2 4 p1.toNatClampNeg).toNatClampNeg), .int (S1 2 4 p1.toNatClampNeg), .ref (ad (b1 + 6 + 3))]) (L := [[((ad b1), .inr (4, [.ref (ad (b1 + 1)), .ref (ad (b1 + 6)), .ref (ad (b1 + 13)), .ref (ad (b1 + 23)), .ref (ad (b1 + 27)), .int (S1 4 1 0)]))], (w_X6 ad (b1 + 1) cs (S1 0)), (w_X1 ad (b1 + 6) cs (S1 1)), (w_X4 ad (b1 + 13) cs (S1 2)), (w_X8 ad (b1 + 23) cs (S1 3)), [((ad (b1 + 27)), .inl (cs 0, 3, .inl (S1 4 0)))]]) (L' := [[((ad b1), .inr (4, [.ref (ad (b1 + 1)), .ref (ad (b1 + 6)), .ref (ad (b1 + 13)), .ref (ad (b1 + 23)), .ref (ad (b1 + 27)), .int (S1 4 1 0)]))], (w_X6 ad (b1 + 1) cs (S1 0)), (w_X1 ad (b1 + 6) cs (S1 1)), (w_X4 ad (b1 + 13) cs (S1 2)), (w_X8 ad (b1 + 23) cs (S1 3)), [((ad (b1 + 27)), .inl (cs 0, 3, .inl (S1 4 0)))]]) (Wc := [(w_X4 ad (b1 + 13) cs (S1 2))]) (Wc' := [(w_X4 ad (b1 + 13) cs (S1 2))]) (is := [3]) (js := [0, 1, 2, 4, 5]) ⟨hx, hb, hml, hown, hts⟩ (k_X4_rideMinutes l dC dI cs ad (b1 + 13) H65.size (S1 2) p1 (S1 4 1 0) q89 gq89) (cwV 2 hts gX5_endRide_X4_rideMinutes rfl rfl rfl cd_X4_rideMinutes ⟨Nat.le_of_ble_eq_true rfl, Nat.le_of_ble_eq_true rfl⟩) hK hP hD hS hA ⟨rfl, rfl, rfl, rfl, rfl, rfl⟩ (jn_nd (is := [3]) hD rfl rfl) 13 3 rfl rfl rfl rfl rfl hl.1 (Nat.le_of_ble_eq_true rfl) dX5_endRide_89 (fun H89 locs89 hP' hD' hS' => ?_)
          replace hS := hS'
          replace hP : va_P (dC, dI) vwCl (fl [(w_X5 ad (b1) cs S1)]) H89 := hP'
          replace hD : va_D A (fl [(w_X5 ad (b1) cs S1)]) := hD'
          clear hP' hD' hS'
          refine lv_iadd hx hb dX5_endRide_92 ?_
          replace hR := gi_e hR
          obtain ⟨i93, hR⟩ := hR
          refine va_iast hx hb hK hP hD hS 9 0 rfl rfl i93 dX5_endRide_93 (fun H93 locs93 hP' hD' hS' => ?_)
          replace hS := hS'
          have hP' : va_P (dC, dI) vwCl (fl [(w_X5 ad (b1) cs (sU S1 1 (sU (S1 1) 2 (sU (S1 1 2) (S1 2 4 p1.toNatClampNeg).toNatClampNeg ((S1 1 2 (S1 2 4 p1.toNatClampNeg).toNatClampNeg) + q89)))))]) H93 := hP'
          have hD' : va_D A (fl [(w_X5 ad (b1) cs (sU S1 1 (sU (S1 1) 2 (sU (S1 1 2) (S1 2 4 p1.toNatClampNeg).toNatClampNeg ((S1 1 2 (S1 2 4 p1.toNatClampNeg).toNatClampNeg) + q89)))))]) := hD'
          replace hR := bn_e hR
          obtain ⟨S1_93, eS1_93, hR⟩ := hR
          replace hP : va_P (dC, dI) vwCl (fl [(w_X5 ad (b1) cs S1_93)]) H93 := by rw [eS1_93]; exact hP'
          replace hD : va_D A (fl [(w_X5 ad (b1) cs S1_93)]) := by rw [eS1_93]; exact hD'
          clear hP' hD' hS'
          refine lv_aload_n hx hb dX5_endRide_94 rfl (lv_at hl 2 rfl) ?_
          refine va_get (D := (dC, dI)) (ci := 4) (v := .ref (ad (b1 + 6))) (C := RX5) (T := TX5) (N := 6) hx hb hts hinX5 hown hK hP 0 rfl rfl 1 (by decide) hF21 (fun _ h9 => h9) rfl dX5_endRide_95 ?_
          refine va_get (D := (dC, dI)) (ci := 0) (v := .ref (ad (b1 + 6 + 5))) (C := RX1) (T := TX1) (N := 7) hx hb hts hinX1 hown hK hP 6 rfl rfl 5 (by decide) hF137 (fun _ h9 => h9) rfl dX5_endRide_98 ?_
          refine lv_iload_n hx hb dX5_endRide_101 rfl (lv_at hl 1 rfl) ?_
          refine lv_dup2_11 hx hb dX5_endRide_102 rfl rfl ?_
          replace hR := gi_e hR
          obtain ⟨i103, hR⟩ := hR
          refine va_iald hx hb hK hP 11 0 rfl rfl i103 dX5_endRide_103 ?_
          refine lv_iconst (v := 1) hx hb dX5_endRide_104 ic_1 ?_
          refine lv_iadd hx hb dX5_endRide_105 ?_
          replace hR := gi_e hR
          obtain ⟨i106, hR⟩ := hR
          refine va_iast hx hb hK hP hD hS 11 0 rfl rfl i106 dX5_endRide_106 (fun H106 locs106 hP' hD' hS' => ?_)
          replace hS := hS'
          have hP' : va_P (dC, dI) vwCl (fl [(w_X5 ad (b1) cs (sU S1_93 1 (sU (S1_93 1) 4 (sU (S1_93 1 4) (S1 2 4 p1.toNatClampNeg).toNatClampNeg ((S1_93 1 4 (S1 2 4 p1.toNatClampNeg).toNatClampNeg) + 1)))))]) H106 := hP'
          have hD' : va_D A (fl [(w_X5 ad (b1) cs (sU S1_93 1 (sU (S1_93 1) 4 (sU (S1_93 1 4) (S1 2 4 p1.toNatClampNeg).toNatClampNeg ((S1_93 1 4 (S1 2 4 p1.toNatClampNeg).toNatClampNeg) + 1)))))]) := hD'
          replace hR := bn_e hR
          obtain ⟨S1_106, eS1_106, hR⟩ := hR
          replace hP : va_P (dC, dI) vwCl (fl [(w_X5 ad (b1) cs S1_106)]) H106 := by rw [eS1_106]; exact hP'
          replace hD : va_D A (fl [(w_X5 ad (b1) cs S1_106)]) := by rw [eS1_106]; exact hD'
          clear hP' hD' hS'
          refine lv_aload_n hx hb dX5_endRide_107 rfl (lv_at hl 2 rfl) ?_
          refine va_get (D := (dC, dI)) (ci := 4) (v := .ref (ad (b1 + 6))) (C := RX5) (T := TX5) (N := 6) hx hb hts hinX5 hown hK hP 0 rfl rfl 1 (by decide) hF21 (fun _ h9 => h9) rfl dX5_endRide_108 ?_
          refine lv_iload_n hx hb dX5_endRide_111 rfl (lv_at hl 1 rfl) ?_
          refine lv_iconst (v := 0) hx hb dX5_endRide_112 ic_0 ?_
          refine lv_iload_n hx hb dX5_endRide_113 rfl (lv_at hl 4 rfl) ?_
          replace hR := bd_e hR
          obtain ⟨q114, gq114, hR⟩ := hR
          replace hP : va_P (dC, dI) vwCl (fl [[((ad b1), .inr (4, [.ref (ad (b1 + 1)), .ref (ad (b1 + 6)), .ref (ad (b1 + 13)), .ref (ad (b1 + 23)), .ref (ad (b1 + 27)), .int (S1_106 4 1 0)]))], (w_X6 ad (b1 + 1) cs (S1_106 0)), (w_X1 ad (b1 + 6) cs (S1_106 1)), (w_X4 ad (b1 + 13) cs (S1_106 2)), (w_X8 ad (b1 + 23) cs (S1_106 3)), [((ad (b1 + 27)), .inl (cs 0, 3, .inl (S1_106 4 0)))]]) H106 := hP
          replace hD : va_D A (fl [[((ad b1), .inr (4, [.ref (ad (b1 + 1)), .ref (ad (b1 + 6)), .ref (ad (b1 + 13)), .ref (ad (b1 + 23)), .ref (ad (b1 + 27)), .int (S1_106 4 1 0)]))], (w_X6 ad (b1 + 1) cs (S1_106 0)), (w_X1 ad (b1 + 6) cs (S1_106 1)), (w_X4 ad (b1 + 13) cs (S1_106 2)), (w_X8 ad (b1 + 23) cs (S1_106 3)), [((ad (b1 + 27)), .inl (cs 0, 3, .inl (S1_106 4 0)))]]) := hD
          refine cl_Vv (As := [.int (S1 2 4 p1.toNatClampNeg), .int (0 : Int32), .int p2]) (rest := []) (L := [[((ad b1), .inr (4, [.ref (ad (b1 + 1)), .ref (ad (b1 + 6)), .ref (ad (b1 + 13)), .ref (ad (b1 + 23)), .ref (ad (b1 + 27)), .int (S1_106 4 1 0)]))], (w_X6 ad (b1 + 1) cs (S1_106 0)), (w_X1 ad (b1 + 6) cs (S1_106 1)), (w_X4 ad (b1 + 13) cs (S1_106 2)), (w_X8 ad (b1 + 23) cs (S1_106 3)), [((ad (b1 + 27)), .inl (cs 0, 3, .inl (S1_106 4 0)))]]) (L' := [[((ad b1), .inr (4, [.ref (ad (b1 + 1)), .ref (ad (b1 + 6)), .ref (ad (b1 + 13)), .ref (ad (b1 + 23)), .ref (ad (b1 + 27)), .int ((sU S1_106 1 q114) 4 1 0)]))], (w_X6 ad (b1 + 1) cs ((sU S1_106 1 q114) 0)), (w_X1 ad (b1 + 6) cs ((sU S1_106 1 q114) 1)), (w_X4 ad (b1 + 13) cs ((sU S1_106 1 q114) 2)), (w_X8 ad (b1 + 23) cs ((sU S1_106 1 q114) 3)), [((ad (b1 + 27)), .inl (cs 0, 3, .inl ((sU S1_106 1 q114) 4 0)))]]) (Wc := [(w_X1 ad (b1 + 6) cs (S1_106 1))]) (Wc' := [(w_X1 ad (b1 + 6) cs q114)]) (is := [2]) (js := [0, 1, 3, 4, 5]) ⟨hx, hb, hml, hown, hts⟩ (k_X1_bring l dC dI cs ad (b1 + 6) H106.size (S1_106 1) (S1 2 4 p1.toNatClampNeg) (0 : Int32) p2 q114 gq114) (cwV 3 hts gX5_endRide_X1_bring rfl rfl rfl cd_X1_bring ⟨Nat.le_of_ble_eq_true rfl, Nat.le_of_ble_eq_true rfl⟩) hK hP hD hS hA ⟨rfl, rfl, rfl, rfl, rfl, rfl⟩ (jn_nd (is := [2]) hD rfl rfl) 6 0 rfl rfl rfl rfl rfl hl.1 (Nat.le_of_ble_eq_true rfl) dX5_endRide_114 (fun H114 locs114 hP' hD' hS' => ?_)
          replace hS := hS'
          have hP' : va_P (dC, dI) vwCl (fl [(w_X5 ad (b1) cs (sU S1_106 1 q114))]) H114 := hP'
          have hD' : va_D A (fl [(w_X5 ad (b1) cs (sU S1_106 1 q114))]) := hD'
          replace hR := bn_e hR
          obtain ⟨S1_114, eS1_114, hR⟩ := hR
          replace hP : va_P (dC, dI) vwCl (fl [(w_X5 ad (b1) cs S1_114)]) H114 := by rw [eS1_114]; exact hP'
          replace hD : va_D A (fl [(w_X5 ad (b1) cs S1_114)]) := by rw [eS1_114]; exact hD'
          clear hP' hD' hS'
          refine lv_aload_n hx hb dX5_endRide_117 rfl (lv_at hl 2 rfl) ?_
          refine va_get (D := (dC, dI)) (ci := 4) (v := .ref (ad (b1 + 13))) (C := RX5) (T := TX5) (N := 6) hx hb hts hinX5 hown hK hP 0 rfl rfl 2 (by decide) hF28 (fun _ h9 => h9) rfl dX5_endRide_118 ?_
          refine va_get (D := (dC, dI)) (ci := 3) (v := .ref (ad (b1 + 13 + 1))) (C := RX4) (T := TX4) (N := 10) hx hb hts hinX4 hown hK hP 13 rfl rfl 1 (by decide) hF96 (fun _ h9 => h9) rfl dX5_endRide_121 ?_
          refine lv_iload_n hx hb dX5_endRide_124 rfl (lv_at hl 3 rfl) ?_
          refine lv_dup2_11 hx hb dX5_endRide_125 rfl rfl ?_
          replace hR := gi_e hR
          obtain ⟨i126, hR⟩ := hR
          refine va_iald hx hb hK hP 14 0 rfl rfl i126 dX5_endRide_126 ?_
          refine lv_iload hx hb dX5_endRide_127 (lv_at hl 0 rfl) ?_
          refine lv_iadd hx hb dX5_endRide_129 ?_
          replace hR := gi_e hR
          obtain ⟨i130, hR⟩ := hR
          refine va_iast hx hb hK hP hD hS 14 0 rfl rfl i130 dX5_endRide_130 (fun H130 locs130 hP' hD' hS' => ?_)
          replace hS := hS'
          have hP' : va_P (dC, dI) vwCl (fl [(w_X5 ad (b1) cs (sU S1_114 2 (sU (S1_114 2) 0 (sU (S1_114 2 0) p1.toNatClampNeg ((S1_114 2 0 p1.toNatClampNeg) + q65)))))]) H130 := hP'
          have hD' : va_D A (fl [(w_X5 ad (b1) cs (sU S1_114 2 (sU (S1_114 2) 0 (sU (S1_114 2 0) p1.toNatClampNeg ((S1_114 2 0 p1.toNatClampNeg) + q65)))))]) := hD'
          replace hR := bn_e hR
          obtain ⟨S1_130, eS1_130, hR⟩ := hR
          replace hP : va_P (dC, dI) vwCl (fl [(w_X5 ad (b1) cs S1_130)]) H130 := by rw [eS1_130]; exact hP'
          replace hD : va_D A (fl [(w_X5 ad (b1) cs S1_130)]) := by rw [eS1_130]; exact hD'
          clear hP' hD' hS'
          refine lv_aload_n hx hb dX5_endRide_131 rfl (lv_at hl 2 rfl) ?_
          refine va_get (D := (dC, dI)) (ci := 4) (v := .ref (ad (b1 + 13))) (C := RX5) (T := TX5) (N := 6) hx hb hts hinX5 hown hK hP 0 rfl rfl 2 (by decide) hF28 (fun _ h9 => h9) rfl dX5_endRide_132 ?_
          refine va_get (D := (dC, dI)) (ci := 3) (v := .ref (ad (b1 + 13 + 4))) (C := RX4) (T := TX4) (N := 10) hx hb hts hinX4 hown hK hP 13 rfl rfl 4 (by decide) hF140 (fun _ h9 => h9) rfl dX5_endRide_135 ?_
          refine lv_iload_n hx hb dX5_endRide_138 rfl (lv_at hl 3 rfl) ?_
          refine lv_dup2_11 hx hb dX5_endRide_139 rfl rfl ?_
          replace hR := gi_e hR
          obtain ⟨i140, hR⟩ := hR
          refine va_iald hx hb hK hP 17 0 rfl rfl i140 dX5_endRide_140 ?_
          refine lv_iconst (v := 1) hx hb dX5_endRide_141 ic_1 ?_
          refine lv_iadd hx hb dX5_endRide_142 ?_
          replace hR := gi_e hR
          obtain ⟨i143, hR⟩ := hR
          refine va_iast hx hb hK hP hD hS 17 0 rfl rfl i143 dX5_endRide_143 (fun H143 locs143 hP' hD' hS' => ?_)
          replace hS := hS'
          have hP' : va_P (dC, dI) vwCl (fl [(w_X5 ad (b1) cs (sU S1_130 2 (sU (S1_130 2) 3 (sU (S1_130 2 3) p1.toNatClampNeg ((S1_130 2 3 p1.toNatClampNeg) + 1)))))]) H143 := hP'
          have hD' : va_D A (fl [(w_X5 ad (b1) cs (sU S1_130 2 (sU (S1_130 2) 3 (sU (S1_130 2 3) p1.toNatClampNeg ((S1_130 2 3 p1.toNatClampNeg) + 1)))))]) := hD'
          replace hR := bn_e hR
          obtain ⟨S1_143, eS1_143, hR⟩ := hR
          replace hP : va_P (dC, dI) vwCl (fl [(w_X5 ad (b1) cs S1_143)]) H143 := by rw [eS1_143]; exact hP'
          replace hD : va_D A (fl [(w_X5 ad (b1) cs S1_143)]) := by rw [eS1_143]; exact hD'
          clear hP' hD' hS'
          refine lv_aload_n hx hb dX5_endRide_144 rfl (lv_at hl 2 rfl) ?_
          refine va_get (D := (dC, dI)) (ci := 4) (v := .ref (ad (b1 + 13))) (C := RX5) (T := TX5) (N := 6) hx hb hts hinX5 hown hK hP 0 rfl rfl 2 (by decide) hF28 (fun _ h9 => h9) rfl dX5_endRide_145 ?_
          refine va_get (D := (dC, dI)) (ci := 3) (v := .ref (ad (b1 + 13 + 5))) (C := RX4) (T := TX4) (N := 10) hx hb hts hinX4 hown hK hP 13 rfl rfl 5 (by decide) hF106 (fun _ h9 => h9) rfl dX5_endRide_148 ?_
          refine lv_iload_n hx hb dX5_endRide_151 rfl (lv_at hl 3 rfl) ?_
          refine lv_iconst (v := (-1)) hx hb dX5_endRide_152 ic_m1 ?_
          replace hR := gi_e hR
          obtain ⟨i153, hR⟩ := hR
          refine va_iast hx hb hK hP hD hS 18 0 rfl rfl i153 dX5_endRide_153 (fun H153 locs153 hP' hD' hS' => ?_)
          replace hS := hS'
          have hP' : va_P (dC, dI) vwCl (fl [(w_X5 ad (b1) cs (sU S1_143 2 (sU (S1_143 2) 4 (sU (S1_143 2 4) p1.toNatClampNeg (-1)))))]) H153 := hP'
          have hD' : va_D A (fl [(w_X5 ad (b1) cs (sU S1_143 2 (sU (S1_143 2) 4 (sU (S1_143 2 4) p1.toNatClampNeg (-1)))))]) := hD'
          replace hR := bn_e hR
          obtain ⟨S1_153, eS1_153, hR⟩ := hR
          replace hP : va_P (dC, dI) vwCl (fl [(w_X5 ad (b1) cs S1_153)]) H153 := by rw [eS1_153]; exact hP'
          replace hD : va_D A (fl [(w_X5 ad (b1) cs S1_153)]) := by rw [eS1_153]; exact hD'
          clear hP' hD' hS'
          refine lv_aload_n hx hb dX5_endRide_154 rfl (lv_at hl 2 rfl) ?_
          refine va_get (D := (dC, dI)) (ci := 4) (v := .ref (ad (b1 + 1))) (C := RX5) (T := TX5) (N := 6) hx hb hts hinX5 hown hK hP 0 rfl rfl 0 (by decide) hF12 (fun _ h9 => h9) rfl dX5_endRide_155 ?_
          refine va_get (D := (dC, dI)) (ci := 5) (v := .ref (ad (b1 + 1 + 4))) (C := RX6) (T := TX6) (N := 5) hx hb hts hinX6 hown hK hP 1 rfl rfl 4 (by decide) hF141 (fun _ h9 => h9) rfl dX5_endRide_158 ?_
          refine lv_iload_n hx hb dX5_endRide_161 rfl (lv_at hl 4 rfl) ?_
          refine lv_dup2_11 hx hb dX5_endRide_162 rfl rfl ?_
          replace hR := gi_e hR
          obtain ⟨i163, hR⟩ := hR
          refine va_iald hx hb hK hP 5 0 rfl rfl i163 dX5_endRide_163 ?_
          refine lv_iconst (v := 1) hx hb dX5_endRide_164 ic_1 ?_
          refine lv_iadd hx hb dX5_endRide_165 ?_
          replace hR := gi_e hR
          obtain ⟨i166, hR⟩ := hR
          refine va_iast hx hb hK hP hD hS 5 0 rfl rfl i166 dX5_endRide_166 (fun H166 locs166 hP' hD' hS' => ?_)
          replace hS := hS'
          have hP' : va_P (dC, dI) vwCl (fl [(w_X5 ad (b1) cs (sU S1_153 0 (sU (S1_153 0) 3 (sU (S1_153 0 3) p2.toNatClampNeg ((S1_153 0 3 p2.toNatClampNeg) + 1)))))]) H166 := hP'
          have hD' : va_D A (fl [(w_X5 ad (b1) cs (sU S1_153 0 (sU (S1_153 0) 3 (sU (S1_153 0 3) p2.toNatClampNeg ((S1_153 0 3 p2.toNatClampNeg) + 1)))))]) := hD'
          replace hR := bn_e hR
          obtain ⟨S1_166, eS1_166, hR⟩ := hR
          replace hP : va_P (dC, dI) vwCl (fl [(w_X5 ad (b1) cs S1_166)]) H166 := by rw [eS1_166]; exact hP'
          replace hD : va_D A (fl [(w_X5 ad (b1) cs S1_166)]) := by rw [eS1_166]; exact hD'
          clear hP' hD' hS'
          refine lv_iload hx hb dX5_endRide_167 (lv_at hl 0 rfl) ?_
          replace hR := Option.some.inj hR
          obtain ⟨e9, hR⟩ := Prod.mk.inj hR
          have eu1 := hR
          replace hP : va_P (dC, dI) vwCl (fl [(w_X5 ad (b1) cs u1)]) H166 := by rw [← eu1]; exact hP
          replace hD : va_D A (fl [(w_X5 ad (b1) cs u1)]) := by rw [← eu1]; exact hD
          exact W.iret hx hb hr (fun t ht hW => ⟨⟨_, (), rfl, e9, by rw [ht]; exact hP, va_K.moved hW.alike hK, hD⟩, hS.F ht⟩) hS.2.2 dX5_endRide_169
        · replace hR := it_t hR c50
          refine lv_bipush (v := (-2)) hx hb dX5_endRide_53 bp_m2 ?_
          replace hR := Option.some.inj hR
          obtain ⟨e9, hR⟩ := Prod.mk.inj hR
          have eu1 := hR
          replace hP : va_P (dC, dI) vwCl (fl [(w_X5 ad (b1) cs u1)]) H47 := by rw [← eu1]; exact hP
          replace hD : va_D A (fl [(w_X5 ad (b1) cs u1)]) := by rw [← eu1]; exact hD
          exact W.iret hx hb hr (fun t ht hW => ⟨⟨_, (), rfl, e9, by rw [ht]; exact hP, va_K.moved hW.alike hK, hD⟩, hS.F ht⟩) hS.2.2 dX5_endRide_55
    · replace hR := it_t hR c19
      refine lv_iconst (v := (-1)) hx hb dX5_endRide_22 ic_m1 ?_
      replace hR := Option.some.inj hR
      obtain ⟨e9, hR⟩ := Prod.mk.inj hR
      have eu1 := hR
      replace hP : va_P (dC, dI) vwCl (fl [(w_X5 ad (b1) cs u1)]) H16 := by rw [← eu1]; exact hP
      replace hD : va_D A (fl [(w_X5 ad (b1) cs u1)]) := by rw [← eu1]; exact hD
      exact W.iret hx hb hr (fun t ht hW => ⟨⟨_, (), rfl, e9, by rw [ht]; exact hP, va_K.moved hW.alike hK, hD⟩, hS.F ht⟩) hS.2.2 dX5_endRide_23
