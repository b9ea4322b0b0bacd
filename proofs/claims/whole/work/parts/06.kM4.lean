set_option maxHeartbeats 8000000 in
set_option maxRecDepth 100000 in
theorem k_X11_play (l : Launch) (dC : Nat → ClassId) (dI : Nat → Nat → Nat) (cs : Nat → ClassId) (ad : Nat → Nat) (b1 : Nat) (sz : Nat) (S1 : T2) (r : Int32) (u1 : T2) (hR : fX11_play S1 = some (r, u1)) : Met l yX11_play wsX11_play ({ frames := 9, cells := 0, slots := 0, locals := 201 } : Room) (va_Pc [.ref (ad b1)] (pW dC dI (tyL cs) (fl [(w_X11 ad (b1) cs S1)]) sz)) (QI dC dI (tyL cs) (va_A (fl [(w_X11 ad (b1) cs S1)]) sz) (fl [(w_X11 ad (b1) cs u1)]) r) 0 0 (va_A (fl [(w_X11 ad (b1) cs S1)]) sz) := by
  refine mt_of (own := RX11) (cc := cX11_play) (maxL := 2) (ret := (some .int)) (Qc := fun A => QI dC dI (tyL cs) A (fl [(w_X11 ad (b1) cs u1)]) r) rfl (by decide) rfl (Nat.le_of_ble_eq_true rfl) (fun p e s m below meth c A ls hsz hx hb hr hts hown hlocks hml hA hK hP hD hS hl => ?_)
  subst hsz
  have hl : lv_has ls 2 [(0, .ref (ad b1))] := hl
  have hF7 := hts (.fieldLink RX11 7 "DockedBikesModel" "s" "[I") (List.mem_of_getElem? (i := 1) rfl)
  have hF16 := hts (.fieldLink RX11 16 "DockedBikesModel" "held" "[I") (List.mem_of_getElem? (i := 2) rfl)
  have hF204 := hts (.fieldLink RX11 204 "DockedBikesModel" "commands" "I") (List.mem_of_getElem? (i := 3) rfl)
  have hinX11 : ∀ w ∈ wsX110, w ∈ wsX11_play := by decide +kernel
  refine lv_aload_n hx hb dX11_play_0 rfl (lv_at hl 0 rfl) ?_
  refine va_get (D := (dC, dI)) (ci := 9) (v := .ref (ad (b1 + 1))) (C := RX11) (T := TX11) (N := 14) hx hb hts hinX11 hown hK hP 0 rfl rfl 0 (by decide) hF7 (fun _ h9 => h9) rfl dX11_play_1 ?_
  refine lv_aload_n hx hb dX11_play_4 rfl (lv_at hl 0 rfl) ?_
  refine va_get (D := (dC, dI)) (ci := 9) (v := .ref (ad (b1 + 3))) (C := RX11) (T := TX11) (N := 14) hx hb hts hinX11 hown hK hP 0 rfl rfl 2 (by decide) hF16 (fun _ h9 => h9) rfl dX11_play_5 ?_
  replace hR := bd_e hR
  obtain ⟨q8, gq8, hR⟩ := hR
  replace hP : va_P (dC, dI) vwCl (fl [[((ad b1), .inr (9, [.ref (ad (b1 + 1)), .ref (ad (b1 + 2)), .ref (ad (b1 + 3)), .ref (ad (b1 + 4)), .int (S1 6 0), .int (S1 6 1), .int (S1 6 2), .ref (ad (b1 + 5)), .int (S1 6 3), .int (S1 6 4), .int (S1 6 5), .int (S1 6 6), .int (S1 6 7), .ref (ad (b1 + 6))]))], (w_A206 ad (b1 + 1) cs (S1 0)), [((ad (b1 + 2)), .inl (cs 0, 824, .inl (S1 1)))], (w_A206 ad (b1 + 3) cs (S1 2)), (w_A206 ad (b1 + 4) cs (S1 3)), [((ad (b1 + 5)), .inl (cs 0, 60, .inl (S1 4)))], [((ad (b1 + 6)), .inl (cs 0, 2, .inl (S1 5)))]]) s.heap := hP
  replace hD : va_D A (fl [[((ad b1), .inr (9, [.ref (ad (b1 + 1)), .ref (ad (b1 + 2)), .ref (ad (b1 + 3)), .ref (ad (b1 + 4)), .int (S1 6 0), .int (S1 6 1), .int (S1 6 2), .ref (ad (b1 + 5)), .int (S1 6 3), .int (S1 6 4), .int (S1 6 5), .int (S1 6 6), .int (S1 6 7), .ref (ad (b1 + 6))]))], (w_A206 ad (b1 + 1) cs (S1 0)), [((ad (b1 + 2)), .inl (cs 0, 824, .inl (S1 1)))], (w_A206 ad (b1 + 3) cs (S1 2)), (w_A206 ad (b1 + 4) cs (S1 3)), [((ad (b1 + 5)), .inl (cs 0, 60, .inl (S1 4)))], [((ad (b1 + 6)), .inl (cs 0, 2, .inl (S1 5)))]]) := hD
  refine cl_Sv (As := [.ref (ad (b1 + 1)), .ref (ad (b1 + 3))]) (rest := []) (L := [[((ad b1), .inr (9, [.ref (ad (b1 + 1)), .ref (ad (b1 + 2)), .ref (ad (b1 + 3)), .ref (ad (b1 + 4)), .int (S1 6 0), .int (S1 6 1), .int (S1 6 2), .ref (ad (b1 + 5)), .int (S1 6 3), .int (S1 6 4), .int (S1 6 5), .int (S1 6 6), .int (S1 6 7), .ref (ad (b1 + 6))]))], (w_A206 ad (b1 + 1) cs (S1 0)), [((ad (b1 + 2)), .inl (cs 0, 824, .inl (S1 1)))], (w_A206 ad (b1 + 3) cs (S1 2)), (w_A206 ad (b1 + 4) cs (S1 3)), [((ad (b1 + 5)), .inl (cs 0, 60, .inl (S1 4)))], [((ad (b1 + 6)), .inl (cs 0, 2, .inl (S1 5)))]]) (L' := [[((ad b1), .inr (9, [.ref (ad (b1 + 1)), .ref (ad (b1 + 2)), .ref (ad (b1 + 3)), .ref (ad (b1 + 4)), .int ((sU S1 2 q8) 6 0), .int ((sU S1 2 q8) 6 1), .int ((sU S1 2 q8) 6 2), .ref (ad (b1 + 5)), .int ((sU S1 2 q8) 6 3), .int ((sU S1 2 q8) 6 4), .int ((sU S1 2 q8) 6 5), .int ((sU S1 2 q8) 6 6), .int ((sU S1 2 q8) 6 7), .ref (ad (b1 + 6))]))], (w_A206 ad (b1 + 1) cs ((sU S1 2 q8) 0)), [((ad (b1 + 2)), .inl (cs 0, 824, .inl ((sU S1 2 q8) 1)))], (w_A206 ad (b1 + 3) cs ((sU S1 2 q8) 2)), (w_A206 ad (b1 + 4) cs ((sU S1 2 q8) 3)), [((ad (b1 + 5)), .inl (cs 0, 60, .inl ((sU S1 2 q8) 4)))], [((ad (b1 + 6)), .inl (cs 0, 2, .inl ((sU S1 2 q8) 5)))]]) (Wc := [(w_A206 ad (b1 + 1) cs (S1 0)), (w_A206 ad (b1 + 3) cs (S1 2))]) (Wc' := [(w_A206 ad (b1 + 1) cs (S1 0)), (w_A206 ad (b1 + 3) cs q8)]) (is := [1, 3]) (js := [0, 2, 4, 5, 6]) ⟨hx, hb, hml, hown, hts⟩ (k_X11_copies l dC dI cs ad (b1 + 1) (b1 + 3) s.heap.size (S1 0) (S1 2) q8 gq8) (cwS 2 hts gX11_play_X11_copies rfl rfl rfl cd_X11_copies ⟨Nat.le_of_ble_eq_true rfl, Nat.le_of_ble_eq_true rfl⟩) hK hP hD hS hA ⟨rfl, rfl, rfl, rfl, rfl, rfl⟩ (jn_nd (is := [1, 3]) hD rfl rfl) rfl rfl hl.1 (Nat.le_of_ble_eq_true rfl) dX11_play_8 (fun H8 locs8 hP' hD' hS' => ?_)
  replace hS := hS'
  have hP' : va_P (dC, dI) vwCl (fl [(w_X11 ad (b1) cs (sU S1 2 q8))]) H8 := hP'
  have hD' : va_D A (fl [(w_X11 ad (b1) cs (sU S1 2 q8))]) := hD'
  replace hR := bn_e hR
  obtain ⟨S1_8, eS1_8, hR⟩ := hR
  replace hP : va_P (dC, dI) vwCl (fl [(w_X11 ad (b1) cs S1_8)]) H8 := by rw [eS1_8]; exact hP'
  replace hD : va_D A (fl [(w_X11 ad (b1) cs S1_8)]) := by rw [eS1_8]; exact hD'
  clear hP' hD' hS'
  refine lv_aload_n hx hb dX11_play_11 rfl (lv_at hl 0 rfl) ?_
  replace hR := bd_e hR
  obtain ⟨q12, gq12, hR⟩ := hR
  refine cl_Vi (As := []) (rest := []) (L := [(w_X11 ad (b1) cs S1_8)]) (L' := [(w_X11 ad (b1) cs q12.2)]) (Wc := [(w_X11 ad (b1) cs S1_8)]) (Wc' := [(w_X11 ad (b1) cs q12.2)]) (is := [0]) (js := []) ⟨hx, hb, hml, hown, hts⟩ (k_X11_plays l dC dI cs ad (b1) H8.size S1_8 q12.1 q12.2 gq12) (cwV 0 hts gX11_play_X11_plays rfl rfl rfl cd_X11_plays ⟨Nat.le_of_ble_eq_true rfl, Nat.le_of_ble_eq_true rfl⟩) hK hP hD hS hA ⟨rfl, rfl, rfl, rfl, rfl, rfl⟩ (jn_nd (is := [0]) hD rfl rfl) 0 9 rfl rfl rfl rfl rfl hl.1 (Nat.le_of_ble_eq_true rfl) dX11_play_12 (fun H12 locs12 hP' hD' hS' => ?_)
  replace hS := hS'
  replace hP : va_P (dC, dI) vwCl (fl [(w_X11 ad (b1) cs q12.2)]) H12 := hP'
  replace hD : va_D A (fl [(w_X11 ad (b1) cs q12.2)]) := hD'
  clear hP' hD' hS'
  refine lv_istore_n (lv' := [(1, .int q12.1), (0, .ref (ad b1))]) hx hb dX11_play_15 rfl hl (Nat.le_of_ble_eq_true rfl) rfl (fun ls hl => ?_)
  refine lv_aload_n hx hb dX11_play_16 rfl (lv_at hl 1 rfl) ?_
  refine va_get (D := (dC, dI)) (ci := 9) (v := .ref (ad (b1 + 3))) (C := RX11) (T := TX11) (N := 14) hx hb hts hinX11 hown hK hP 0 rfl rfl 2 (by decide) hF16 (fun _ h9 => h9) rfl dX11_play_17 ?_
  refine lv_aload_n hx hb dX11_play_20 rfl (lv_at hl 1 rfl) ?_
  refine va_get (D := (dC, dI)) (ci := 9) (v := .ref (ad (b1 + 1))) (C := RX11) (T := TX11) (N := 14) hx hb hts hinX11 hown hK hP 0 rfl rfl 0 (by decide) hF7 (fun _ h9 => h9) rfl dX11_play_21 ?_
  replace hR := bd_e hR
  obtain ⟨q24, gq24, hR⟩ := hR
  replace hP : va_P (dC, dI) vwCl (fl [[((ad b1), .inr (9, [.ref (ad (b1 + 1)), .ref (ad (b1 + 2)), .ref (ad (b1 + 3)), .ref (ad (b1 + 4)), .int (q12.2 6 0), .int (q12.2 6 1), .int (q12.2 6 2), .ref (ad (b1 + 5)), .int (q12.2 6 3), .int (q12.2 6 4), .int (q12.2 6 5), .int (q12.2 6 6), .int (q12.2 6 7), .ref (ad (b1 + 6))]))], (w_A206 ad (b1 + 1) cs (q12.2 0)), [((ad (b1 + 2)), .inl (cs 0, 824, .inl (q12.2 1)))], (w_A206 ad (b1 + 3) cs (q12.2 2)), (w_A206 ad (b1 + 4) cs (q12.2 3)), [((ad (b1 + 5)), .inl (cs 0, 60, .inl (q12.2 4)))], [((ad (b1 + 6)), .inl (cs 0, 2, .inl (q12.2 5)))]]) H12 := hP
  replace hD : va_D A (fl [[((ad b1), .inr (9, [.ref (ad (b1 + 1)), .ref (ad (b1 + 2)), .ref (ad (b1 + 3)), .ref (ad (b1 + 4)), .int (q12.2 6 0), .int (q12.2 6 1), .int (q12.2 6 2), .ref (ad (b1 + 5)), .int (q12.2 6 3), .int (q12.2 6 4), .int (q12.2 6 5), .int (q12.2 6 6), .int (q12.2 6 7), .ref (ad (b1 + 6))]))], (w_A206 ad (b1 + 1) cs (q12.2 0)), [((ad (b1 + 2)), .inl (cs 0, 824, .inl (q12.2 1)))], (w_A206 ad (b1 + 3) cs (q12.2 2)), (w_A206 ad (b1 + 4) cs (q12.2 3)), [((ad (b1 + 5)), .inl (cs 0, 60, .inl (q12.2 4)))], [((ad (b1 + 6)), .inl (cs 0, 2, .inl (q12.2 5)))]]) := hD
  refine cl_Sv (As := [.ref (ad (b1 + 3)), .ref (ad (b1 + 1))]) (rest := []) (L := [[((ad b1), .inr (9, [.ref (ad (b1 + 1)), .ref (ad (b1 + 2)), .ref (ad (b1 + 3)), .ref (ad (b1 + 4)), .int (q12.2 6 0), .int (q12.2 6 1), .int (q12.2 6 2), .ref (ad (b1 + 5)), .int (q12.2 6 3), .int (q12.2 6 4), .int (q12.2 6 5), .int (q12.2 6 6), .int (q12.2 6 7), .ref (ad (b1 + 6))]))], (w_A206 ad (b1 + 1) cs (q12.2 0)), [((ad (b1 + 2)), .inl (cs 0, 824, .inl (q12.2 1)))], (w_A206 ad (b1 + 3) cs (q12.2 2)), (w_A206 ad (b1 + 4) cs (q12.2 3)), [((ad (b1 + 5)), .inl (cs 0, 60, .inl (q12.2 4)))], [((ad (b1 + 6)), .inl (cs 0, 2, .inl (q12.2 5)))]]) (L' := [[((ad b1), .inr (9, [.ref (ad (b1 + 1)), .ref (ad (b1 + 2)), .ref (ad (b1 + 3)), .ref (ad (b1 + 4)), .int ((sU q12.2 0 q24) 6 0), .int ((sU q12.2 0 q24) 6 1), .int ((sU q12.2 0 q24) 6 2), .ref (ad (b1 + 5)), .int ((sU q12.2 0 q24) 6 3), .int ((sU q12.2 0 q24) 6 4), .int ((sU q12.2 0 q24) 6 5), .int ((sU q12.2 0 q24) 6 6), .int ((sU q12.2 0 q24) 6 7), .ref (ad (b1 + 6))]))], (w_A206 ad (b1 + 1) cs ((sU q12.2 0 q24) 0)), [((ad (b1 + 2)), .inl (cs 0, 824, .inl ((sU q12.2 0 q24) 1)))], (w_A206 ad (b1 + 3) cs ((sU q12.2 0 q24) 2)), (w_A206 ad (b1 + 4) cs ((sU q12.2 0 q24) 3)), [((ad (b1 + 5)), .inl (cs 0, 60, .inl ((sU q12.2 0 q24) 4)))], [((ad (b1 + 6)), .inl (cs 0, 2, .inl ((sU q12.2 0 q24) 5)))]]) (Wc := [(w_A206 ad (b1 + 3) cs (q12.2 2)), (w_A206 ad (b1 + 1) cs (q12.2 0))]) (Wc' := [(w_A206 ad (b1 + 3) cs (q12.2 2)), (w_A206 ad (b1 + 1) cs q24)]) (is := [3, 1]) (js := [0, 2, 4, 5, 6]) ⟨hx, hb, hml, hown, hts⟩ (k_X11_copies l dC dI cs ad (b1 + 3) (b1 + 1) H12.size (q12.2 2) (q12.2 0) q24 gq24) (cwS 2 hts gX11_play_X11_copies rfl rfl rfl cd_X11_copies ⟨Nat.le_of_ble_eq_true rfl, Nat.le_of_ble_eq_true rfl⟩) hK hP hD hS hA ⟨rfl, rfl, rfl, rfl, rfl, rfl⟩ (jn_nd (is := [3, 1]) hD rfl rfl) rfl rfl hl.1 (Nat.le_of_ble_eq_true rfl) dX11_play_24 (fun H24 locs24 hP' hD' hS' => ?_)
  replace hS := hS'
  have hP' : va_P (dC, dI) vwCl (fl [(w_X11 ad (b1) cs (sU q12.2 0 q24))]) H24 := hP'
  have hD' : va_D A (fl [(w_X11 ad (b1) cs (sU q12.2 0 q24))]) := hD'
  replace hR := bn_e hR
  obtain ⟨S1_24, eS1_24, hR⟩ := hR
  replace hP : va_P (dC, dI) vwCl (fl [(w_X11 ad (b1) cs S1_24)]) H24 := by rw [eS1_24]; exact hP'
  replace hD : va_D A (fl [(w_X11 ad (b1) cs S1_24)]) := by rw [eS1_24]; exact hD'
  clear hP' hD' hS'
  refine lv_iload_n hx hb dX11_play_27 rfl (lv_at hl 0 rfl) ?_
  refine lv_bipush (v := (-4)) hx hb dX11_play_28 bp_m4 ?_
  refine lv_icmp_eq (tgt := 36) hx hb dX11_play_30 (by decide) (fun c30 => ?_) (fun c30 => ?_)
  · replace hR := it_t hR c30
    refine lv_aload_n hx hb dX11_play_36 rfl (lv_at hl 1 rfl) ?_
    replace hR := bd_e hR
    obtain ⟨q37, gq37, hR⟩ := hR
    refine cl_Vv (As := []) (rest := []) (L := [(w_X11 ad (b1) cs S1_24)]) (L' := [(w_X11 ad (b1) cs q37)]) (Wc := [(w_X11 ad (b1) cs S1_24)]) (Wc' := [(w_X11 ad (b1) cs q37)]) (is := [0]) (js := []) ⟨hx, hb, hml, hown, hts⟩ (k_X11_changes l dC dI cs ad (b1) H24.size S1_24 q37 gq37) (cwV 0 hts gX11_play_X11_changes rfl rfl rfl cd_X11_changes ⟨Nat.le_of_ble_eq_true rfl, Nat.le_of_ble_eq_true rfl⟩) hK hP hD hS hA ⟨rfl, rfl, rfl, rfl, rfl, rfl⟩ (jn_nd (is := [0]) hD rfl rfl) 0 9 rfl rfl rfl rfl rfl hl.1 (Nat.le_of_ble_eq_true rfl) dX11_play_37 (fun H37 locs37 hP' hD' hS' => ?_)
    replace hS := hS'
    replace hP : va_P (dC, dI) vwCl (fl [(w_X11 ad (b1) cs q37)]) H37 := hP'
    replace hD : va_D A (fl [(w_X11 ad (b1) cs q37)]) := hD'
    clear hP' hD' hS'
    refine lv_aload_n hx hb dX11_play_40 rfl (lv_at hl 1 rfl) ?_
    replace hR := bd_e hR
    obtain ⟨q41, gq41, hR⟩ := hR
    refine cl_Vi (As := []) (rest := []) (L := [(w_X11 ad (b1) cs q37)]) (L' := [(w_X11 ad (b1) cs q41.2)]) (Wc := [(w_X11 ad (b1) cs q37)]) (Wc' := [(w_X11 ad (b1) cs q41.2)]) (is := [0]) (js := []) ⟨hx, hb, hml, hown, hts⟩ (k_X11_plays l dC dI cs ad (b1) H37.size q37 q41.1 q41.2 gq41) (cwV 0 hts gX11_play_X11_plays rfl rfl rfl cd_X11_plays ⟨Nat.le_of_ble_eq_true rfl, Nat.le_of_ble_eq_true rfl⟩) hK hP hD hS hA ⟨rfl, rfl, rfl, rfl, rfl, rfl⟩ (jn_nd (is := [0]) hD rfl rfl) 0 9 rfl rfl rfl rfl rfl hl.1 (Nat.le_of_ble_eq_true rfl) dX11_play_41 (fun H41 locs41 hP' hD' hS' => ?_)
    replace hS := hS'
    replace hP : va_P (dC, dI) vwCl (fl [(w_X11 ad (b1) cs q41.2)]) H41 := hP'
    replace hD : va_D A (fl [(w_X11 ad (b1) cs q41.2)]) := hD'
    clear hP' hD' hS'
    refine lv_bipush (v := (-4)) hx hb dX11_play_44 bp_m4 ?_
    refine lv_icmp_ne (tgt := 56) hx hb dX11_play_46 (by decide) (fun c46 => ?_) (fun c46 => ?_)
    · replace hR := it_f hR c46
      refine lv_bipush (v := (-4)) hx hb dX11_play_56 bp_m4 ?_
      replace hR := Option.some.inj hR
      obtain ⟨e9, hR⟩ := Prod.mk.inj hR
      have eu1 := hR
      replace hP : va_P (dC, dI) vwCl (fl [(w_X11 ad (b1) cs u1)]) H41 := by rw [← eu1]; exact hP
      replace hD : va_D A (fl [(w_X11 ad (b1) cs u1)]) := by rw [← eu1]; exact hD
      exact W.iret hx hb hr (fun t ht hW => ⟨⟨_, (), rfl, e9, by rw [ht]; exact hP, va_K.moved hW.alike hK, hD⟩, hS.F ht⟩) hS.2.2 dX11_play_58
    · replace hR := it_t hR c46
      refine lv_aload_n hx hb dX11_play_49 rfl (lv_at hl 1 rfl) ?_
      refine va_get (D := (dC, dI)) (ci := 9) (v := .int (q41.2 6 6)) (C := RX11) (T := TX11) (N := 14) hx hb hts hinX11 hown hK hP 0 rfl rfl 11 (by decide) hF204 (fun _ h9 => h9) rfl dX11_play_50 ?_
      refine lv_goto (tgt := 58) hx hb dX11_play_53 (by decide) ?_
      replace hR := Option.some.inj hR
      obtain ⟨e9, hR⟩ := Prod.mk.inj hR
      have eu1 := hR
      replace hP : va_P (dC, dI) vwCl (fl [(w_X11 ad (b1) cs u1)]) H41 := by rw [← eu1]; exact hP
      replace hD : va_D A (fl [(w_X11 ad (b1) cs u1)]) := by rw [← eu1]; exact hD
      exact W.iret hx hb hr (fun t ht hW => ⟨⟨_, (), rfl, e9, by rw [ht]; exact hP, va_K.moved hW.alike hK, hD⟩, hS.F ht⟩) hS.2.2 dX11_play_58
  · replace hR := it_f hR c30
    refine lv_bipush (v := (-2)) hx hb dX11_play_33 bp_m2 ?_
    replace hR := Option.some.inj hR
    obtain ⟨e9, hR⟩ := Prod.mk.inj hR
    have eu1 := hR
    replace hP : va_P (dC, dI) vwCl (fl [(w_X11 ad (b1) cs u1)]) H24 := by rw [← eu1]; exact hP
    replace hD : va_D A (fl [(w_X11 ad (b1) cs u1)]) := by rw [← eu1]; exact hD
    exact W.iret hx hb hr (fun t ht hW => ⟨⟨_, (), rfl, e9, by rw [ht]; exact hP, va_K.moved hW.alike hK, hD⟩, hS.F ht⟩) hS.2.2 dX11_play_35
