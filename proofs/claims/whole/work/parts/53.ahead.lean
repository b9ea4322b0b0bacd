/-! AHEAD: a word of the text -/
theorem cd_J0_length : yJ0_length_8abf5.cls = RJ0 ∧ yJ0_length_8abf5.cls ≠ "java/lang/invoke/MethodHandle" ∧ yJ0_length_8abf5.cls ≠ "java/lang/invoke/VarHandle" ∧ (parseMethodDescriptor yJ0_length_8abf5.desc).map (fun d => d.parameters.length) = some 0 := by decide +kernel
theorem cd_J0_charAt : yJ0_charAt_5068e.cls = RJ0 ∧ yJ0_charAt_5068e.cls ≠ "java/lang/invoke/MethodHandle" ∧ yJ0_charAt_5068e.cls ≠ "java/lang/invoke/VarHandle" ∧ (parseMethodDescriptor yJ0_charAt_5068e.desc).map (fun d => d.parameters.length) = some 1 := by decide +kernel
set_option maxHeartbeats 8000000 in
set_option maxRecDepth 100000 in
theorem k_X7_isAhead (l : Launch) (dC : Nat → ClassId) (dI : Nat → Nat → Nat) (cs : Nat → ClassId) (ad : Nat → Nat) (aK aV en : Nat → Nat) (tF tS b1 v sz : Nat) (hv : v < 10) (S1 : T2) (r : Int32) (hR : fX7_isAhead S1 v = some r) : Met l yX7_isAhead wsX7_isAhead ({ frames := 4, cells := 0, slots := 0, locals := 85 } : Room) (va_Pc [.ref (ad b1), .ref (aK v)] (pE dC dI (tyL cs) aK aV en tF tS (fl [(w_X7 ad (b1) cs en S1)]) sz)) (QI dC dI (tyL cs) (va_A (fl [(w_X7 ad (b1) cs en S1)]) sz) (fl [(w_X7 ad (b1) cs en S1)]) r) 0 0 (va_A (fl [(w_X7 ad (b1) cs en S1)]) sz) := by
  refine mt_E (own := RX7) (cc := cX7_isAhead) (maxL := 3) (ret := (some .boolean)) (Qc := fun A => QI dC dI (tyL cs) A (fl [(w_X7 ad (b1) cs en S1)]) r) rfl (by decide) rfl (Nat.le_of_ble_eq_true rfl) (fun p e s m below meth c A ls hsz hx hb hr hts hown hlocks hml hA hK hP hD hS hl hE => ?_)
  subst hsz
  have w5 := wl5 v hv
  have hl : lv_has ls 3 [(0, .ref (ad b1)), (1, .ref (aK v))] := hl
  have hF46 := hts (.fieldLink RX7 46 "DockedBikes$Text" "reading" "I") (List.mem_of_getElem? (i := 1) rfl)
  have hF33 := hts (.fieldLink RX7 33 "DockedBikes$Text" "length" "I") (List.mem_of_getElem? (i := 2) rfl)
  have hF15 := hts (.fieldLink RX7 15 "DockedBikes$Text" "signs" "[C") (List.mem_of_getElem? (i := 3) rfl)
  have hinX7 : ∀ w ∈ wsX70, w ∈ wsX7_isAhead := by decide +kernel
  have hB : ∀ (n k : Nat) (H : Heap) (locs : List Loc) (ls : Array Slot), k ≤ wl v → fX7_isAhead_l S1 v n (nI k) = some r → va_P (dC, dI) vwCl (fl [(w_X7 ad (b1) cs en S1)]) H → va_D A (fl [(w_X7 ad (b1) cs en S1)]) → va_S A s.heap H locs → lv_has ls 3 [(0, .ref (ad b1)), (1, .ref (aK v)), (2, .int (nI k))] → W p l e (headSpec wsX7_isAhead ({ frames := 4, cells := 0, slots := 0, locals := 85 } : Room)).room s m ([.ref (ad b1), .ref (aK v)] : List Value).toArray below meth c H locs 0 0 (MQ below (QI dC dI (tyL cs) A (fl [(w_X7 ad (b1) cs en S1)]) r) ([.ref (ad b1), .ref (aK v)] : List Value).toArray s 0 0 A) (F0 m 20 ls []) := by
    intro n
    induction n with
    | zero => intro k H locs ls hk hR; exact nn_e hR
    | succ n ih =>
      intro k H locs ls hk hR hP hD hS hl
      rw [fX7_isAhead_l] at hR
      refine lv_iload_n hx hb dX7_isAhead_20 rfl (lv_at hl 2 rfl) ?_
      refine lv_aload_n hx hb dX7_isAhead_21 rfl (lv_at hl 1 rfl) ?_
      refine cl_ViE (C := RJ0) (As := []) (rest := [.int (nI k)]) (L := [(w_X7 ad (b1) cs en S1)]) (L' := [(w_X7 ad (b1) cs en S1)]) (Wc := []) (Wc' := []) (is := []) (js := [0]) ⟨hx, hb, hml, hown, hts⟩ (k_J0_length l dC dI cs aK aV en tF tS v H.size hv) (cwV 0 hts gX7_isAhead_J0_length_8abf5 rfl rfl rfl cd_J0_length ⟨Nat.le_of_ble_eq_true rfl, Nat.le_of_ble_eq_true rfl⟩) hK hP hD hS hA hE ⟨rfl, rfl, rfl, rfl, rfl, rfl⟩ (jn_nd (L := [(w_X7 ad (b1) cs en S1)]) (is := []) hD rfl rfl) (vk_recv hE.1 hv hS) rfl rfl hl.1 (Nat.le_of_ble_eq_true rfl) dX7_isAhead_22 (fun H1 locs1 hP1 hD1 hS1 => ?_)
      refine lv_icmp_ge (tgt := 55) hx hb dX7_isAhead_25 (by decide) (fun c9 => ?_) (fun c9 => ?_)
      · replace hR := Option.some.inj (it_t hR c9)
        refine lv_iconst (v := 1) hx hb dX7_isAhead_55 ic_1 ?_
        exact W.zret (ty := .boolean) hx hb hr (by decide) (fun t ht hW => ⟨⟨_, (), rfl, hR, by rw [ht]; exact hP1, va_K.moved hW.alike hK, hD1⟩, hS1.F ht⟩) hS1.2.2 dX7_isAhead_56
      · replace hR := it_f hR c9
        have hk2 : k < wl v := Nat.lt_of_not_le (fun q => c9 (nI_le q (by omega)))
        refine lv_aload_n hx hb dX7_isAhead_28 rfl (lv_at hl 0 rfl) ?_
        refine va_get (D := (dC, dI)) (ci := 6) (v := .ref (ad (b1 + 1))) (C := RX7) (T := TX7) (N := 9) hx hb hts hinX7 hown hK hP1 0 rfl rfl 5 (by decide) hF15 (fun _ h9 => h9) rfl dX7_isAhead_29 ?_
        refine lv_aload_n hx hb dX7_isAhead_32 rfl (lv_at hl 0 rfl) ?_
        refine va_get (D := (dC, dI)) (ci := 6) (v := .int (S1 2 5)) (C := RX7) (T := TX7) (N := 9) hx hb hts hinX7 hown hK hP1 0 rfl rfl 8 (by decide) hF46 (fun _ h9 => h9) rfl dX7_isAhead_33 ?_
        refine lv_iload_n hx hb dX7_isAhead_36 rfl (lv_at hl 2 rfl) ?_
        refine lv_iadd hx hb dX7_isAhead_37 ?_
        obtain ⟨i38, hR⟩ := gi_e hR
        refine va_cald hx hb hK hP1 1 1 rfl rfl i38 dX7_isAhead_38 ?_
        refine lv_aload_n hx hb dX7_isAhead_39 rfl (lv_at hl 1 rfl) ?_
        refine lv_iload_n hx hb dX7_isAhead_40 rfl (lv_at hl 2 rfl) ?_
        refine cl_ViE (C := RJ0) (As := [.int (nI k)]) (rest := [.int (S1 0 (S1 2 5 + nI k).toNatClampNeg)]) (L := [(w_X7 ad (b1) cs en S1)]) (L' := [(w_X7 ad (b1) cs en S1)]) (Wc := []) (Wc' := []) (is := []) (js := [0]) ⟨hx, hb, hml, hown, hts⟩ (k_J0_charAt l dC dI cs aK aV en tF tS v k H1.size hv hk2) (cwV 1 hts gX7_isAhead_J0_charAt_5068e rfl rfl rfl cd_J0_charAt ⟨Nat.le_of_ble_eq_true rfl, Nat.le_of_ble_eq_true rfl⟩) hK hP1 hD1 hS1 hA hE ⟨rfl, rfl, rfl, rfl, rfl, rfl⟩ (jn_nd (L := [(w_X7 ad (b1) cs en S1)]) (is := []) hD1 rfl rfl) (vk_recv hE.1 hv hS1) rfl rfl hl.1 (Nat.le_of_ble_eq_true rfl) dX7_isAhead_41 (fun H2 locs2 hP2 hD2 hS2 => ?_)
        rw [cl_nI (by omega)] at hR
        refine lv_icmp_eq (tgt := 49) hx hb dX7_isAhead_44 (by decide) (fun c44 => ?_) (fun c44 => ?_)
        · replace hR := it_t hR c44
          rw [nI_1] at hR
          refine lv_iinc (v := nI (k + 1)) (lv' := [(2, .int (nI (k + 1))), (0, .ref (ad b1)), (1, .ref (aK v))]) hx hb dX7_isAhead_49 hl (k := 2) rfl (nI_1 k) (Nat.le_of_ble_eq_true rfl) rfl (fun ls hl => ?_)
          refine lv_goto (tgt := 20) hx hb dX7_isAhead_52 (by decide) ?_
          exact ih (k + 1) H2 _ ls (by omega) hR hP2 hD2 hS2 (lv_sub hl [1, 2, 0] rfl)
        · replace hR := Option.some.inj (it_f hR c44)
          refine lv_iconst (v := 0) hx hb dX7_isAhead_47 ic_0 ?_
          exact W.zret (ty := .boolean) hx hb hr (by decide) (fun t ht hW => ⟨⟨_, (), rfl, hR, by rw [ht]; exact hP2, va_K.moved hW.alike hK, hD2⟩, hS2.F ht⟩) hS2.2.2 dX7_isAhead_48
  rw [fX7_isAhead] at hR
  refine lv_aload_n hx hb dX7_isAhead_0 rfl (lv_at hl 0 rfl) ?_
  refine va_get (D := (dC, dI)) (ci := 6) (v := .int (S1 2 5)) (C := RX7) (T := TX7) (N := 9) hx hb hts hinX7 hown hK hP 0 rfl rfl 8 (by decide) hF46 (fun _ h9 => h9) rfl dX7_isAhead_1 ?_
  refine lv_aload_n hx hb dX7_isAhead_4 rfl (lv_at hl 1 rfl) ?_
  refine cl_ViE (C := RJ0) (As := []) (rest := [.int (S1 2 5)]) (L := [(w_X7 ad (b1) cs en S1)]) (L' := [(w_X7 ad (b1) cs en S1)]) (Wc := []) (Wc' := []) (is := []) (js := [0]) ⟨hx, hb, hml, hown, hts⟩ (k_J0_length l dC dI cs aK aV en tF tS v s.heap.size hv) (cwV 0 hts gX7_isAhead_J0_length_8abf5 rfl rfl rfl cd_J0_length ⟨Nat.le_of_ble_eq_true rfl, Nat.le_of_ble_eq_true rfl⟩) hK hP hD hS hA hE ⟨rfl, rfl, rfl, rfl, rfl, rfl⟩ (jn_nd (L := [(w_X7 ad (b1) cs en S1)]) (is := []) hD rfl rfl) (vk_recv hE.1 hv hS) rfl rfl hl.1 (Nat.le_of_ble_eq_true rfl) dX7_isAhead_5 (fun H1 locs1 hP1 hD1 hS1 => ?_)
  refine lv_iadd hx hb dX7_isAhead_8 ?_
  refine lv_aload_n hx hb dX7_isAhead_9 rfl (lv_at hl 0 rfl) ?_
  refine va_get (D := (dC, dI)) (ci := 6) (v := .int (S1 2 0)) (C := RX7) (T := TX7) (N := 9) hx hb hts hinX7 hown hK hP1 0 rfl rfl 0 (by decide) hF33 (fun _ h9 => h9) rfl dX7_isAhead_10 ?_
  refine lv_icmp_le (tgt := 18) hx hb dX7_isAhead_13 (by decide) (fun c13 => ?_) (fun c13 => ?_)
  · replace hR := it_f hR (Int32.not_lt.mpr c13)
    refine lv_iconst (v := 0) hx hb dX7_isAhead_18 ic_0 ?_
    refine lv_istore_n (lv' := [(2, .int (0 : Int32)), (0, .ref (ad b1)), (1, .ref (aK v))]) hx hb dX7_isAhead_19 rfl hl (Nat.le_of_ble_eq_true rfl) rfl (fun ls hl => ?_)
    exact hB fuel 0 H1 _ ls (by omega) hR hP1 hD1 hS1 (lv_sub hl [1, 2, 0] rfl)
  · replace hR := Option.some.inj (it_t hR (Int32.not_le.mp c13))
    refine lv_iconst (v := 0) hx hb dX7_isAhead_16 ic_0 ?_
    exact W.zret (ty := .boolean) hx hb hr (by decide) (fun t ht hW => ⟨⟨_, (), rfl, hR, by rw [ht]; exact hP1, va_K.moved hW.alike hK, hD1⟩, hS1.F ht⟩) hS1.2.2 dX7_isAhead_17
