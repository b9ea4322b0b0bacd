set_option maxHeartbeats 8000000 in
set_option maxRecDepth 100000 in
theorem k_L_rides (l : Launch) (dC : Nat → ClassId) (dI : Nat → Nat → Nat) (cs : Nat → ClassId) (ad : Nat → Nat) (en : Nat → Nat) (b1 b2 b3 b4 b5 b6 : Nat) (sz : Nat) (S1 : T1) (S2 : T1) (S3 : T1) (S4 : T1) (S5 : T1) (S6 : T1) (S7 : T5) (p7 : Int32) (p8 : Int32) (r : Int32) (u2 : T1) (u3 : T1) (u4 : T1) (u5 : T1) (u6 : T1) (u7 : T5) (hR : fL_rides S1 S2 S3 S4 S5 S6 S7 p7 p8 = some (r, u2, u3, u4, u5, u6, u7)) : Met l yL_rides wsL_rides ({ frames := 6, cells := 0, slots := 0, locals := 137 } : Room) (va_Pc [.ref (ad 0), .ref b1, .ref b2, .ref b3, .ref b4, .ref b5, .ref b6, .int p7, .int p8] (pW dC dI (tyL cs) (fl [[(b1, .inl (cs 0, 8, .inl S1))], [(b2, .inl (cs 0, 24, .inl S2))], [(b3, .inl (cs 0, 48, .inl S3))], [(b4, .inl (cs 0, 48, .inl S4))], [(b5, .inl (cs 0, 40, .inl S5))], [(b6, .inl (cs 0, 32, .inl S6))], (w_X10 ad (0) cs en S7)]) sz)) (QI dC dI (tyL cs) (va_A (fl [[(b1, .inl (cs 0, 8, .inl S1))], [(b2, .inl (cs 0, 24, .inl S2))], [(b3, .inl (cs 0, 48, .inl S3))], [(b4, .inl (cs 0, 48, .inl S4))], [(b5, .inl (cs 0, 40, .inl S5))], [(b6, .inl (cs 0, 32, .inl S6))], (w_X10 ad (0) cs en S7)]) sz) (fl [[(b1, .inl (cs 0, 8, .inl S1))], [(b2, .inl (cs 0, 24, .inl u2))], [(b3, .inl (cs 0, 48, .inl u3))], [(b4, .inl (cs 0, 48, .inl u4))], [(b5, .inl (cs 0, 40, .inl u5))], [(b6, .inl (cs 0, 32, .inl u6))], (w_X10 ad (0) cs en u7)]) r) 0 0 (va_A (fl [[(b1, .inl (cs 0, 8, .inl S1))], [(b2, .inl (cs 0, 24, .inl S2))], [(b3, .inl (cs 0, 48, .inl S3))], [(b4, .inl (cs 0, 48, .inl S4))], [(b5, .inl (cs 0, 40, .inl S5))], [(b6, .inl (cs 0, 32, .inl S6))], (w_X10 ad (0) cs en S7)]) sz) := by
  refine mt_ofC (own := RL) (cc := cL_rides) (maxL := 15) (ret := (some .boolean)) (Qc := fun A => QI dC dI (tyL cs) A (fl [[(b1, .inl (cs 0, 8, .inl S1))], [(b2, .inl (cs 0, 24, .inl u2))], [(b3, .inl (cs 0, 48, .inl u3))], [(b4, .inl (cs 0, 48, .inl u4))], [(b5, .inl (cs 0, 40, .inl u5))], [(b6, .inl (cs 0, 32, .inl u6))], (w_X10 ad (0) cs en u7)]) r) rfl (by decide) rfl (Nat.le_of_ble_eq_true rfl) (fun p e s m below meth c A ls hsz hx hb hr hts hown hlocks hml hA hK hP hD hS hl => ?_)
  subst hsz
  have hl : lv_has ls 15 [(0, .ref (ad 0)), (1, .ref b1), (2, .ref b2), (3, .ref b3), (4, .ref b4), (5, .ref b5), (6, .ref b6), (7, .int p7), (8, .int p8)] := hl
  have hB630 : ∀ (S2_630h : T1) (S3_630h : T1) (S4_630h : T1) (S5_630h : T1) (S6_630h : T1) (S7_630h : T5) (v9_630 : Int32) (v10_630 : Int32) (H : Heap) (locs : List Loc) (ls : Array Slot), fL_rides_630 S1 p7 p8 S2_630h S3_630h S4_630h S5_630h S6_630h S7_630h v9_630 v10_630 = some (r, u2, u3, u4, u5, u6, u7) → va_P (dC, dI) vwCl (fl [[(b1, .inl (cs 0, 8, .inl S1))], [(b2, .inl (cs 0, 24, .inl S2_630h))], [(b3, .inl (cs 0, 48, .inl S3_630h))], [(b4, .inl (cs 0, 48, .inl S4_630h))], [(b5, .inl (cs 0, 40, .inl S5_630h))], [(b6, .inl (cs 0, 32, .inl S6_630h))], (w_X10 ad (0) cs en S7_630h)]) H → va_D A (fl [[(b1, .inl (cs 0, 8, .inl S1))], [(b2, .inl (cs 0, 24, .inl S2_630h))], [(b3, .inl (cs 0, 48, .inl S3_630h))], [(b4, .inl (cs 0, 48, .inl S4_630h))], [(b5, .inl (cs 0, 40, .inl S5_630h))], [(b6, .inl (cs 0, 32, .inl S6_630h))], (w_X10 ad (0) cs en S7_630h)]) → va_S A s.heap H locs → lv_has ls 15 [(0, .ref (ad 0)), (9, .int v9_630), (10, .int v10_630)] → W p l e (headSpec wsL_rides ({ frames := 6, cells := 0, slots := 0, locals := 137 } : Room)).room s m ([.ref (ad 0), .ref b1, .ref b2, .ref b3, .ref b4, .ref b5, .ref b6, .int p7, .int p8] : List Value).toArray below meth c H locs 0 0 (MQ below (QI dC dI (tyL cs) A (fl [[(b1, .inl (cs 0, 8, .inl S1))], [(b2, .inl (cs 0, 24, .inl u2))], [(b3, .inl (cs 0, 48, .inl u3))], [(b4, .inl (cs 0, 48, .inl u4))], [(b5, .inl (cs 0, 40, .inl u5))], [(b6, .inl (cs 0, 32, .inl u6))], (w_X10 ad (0) cs en u7)]) r) ([.ref (ad 0), .ref b1, .ref b2, .ref b3, .ref b4, .ref b5, .ref b6, .int p7, .int p8] : List Value).toArray s 0 0 A) (F0 m 630 ls []) := by
    intro S2_630h S3_630h S4_630h S5_630h S6_630h S7_630h v9_630 v10_630 H locs ls hR hP hD hS hl
    refine lv_aload_n hx hb dL_rides_630 rfl (lv_at hl 0 rfl) ?_
    refine lv_iload hx hb dL_rides_631 (lv_at hl 1 rfl) ?_
    refine lv_iload hx hb dL_rides_633 (lv_at hl 2 rfl) ?_
    replace hR := bd_e hR
    obtain ⟨q635, gq635, hR⟩ := hR
    refine cm_Vi (As := [.int v9_630, .int v10_630]) (rest := []) (L := [[(b1, .inl (cs 0, 8, .inl S1))], [(b2, .inl (cs 0, 24, .inl S2_630h))], [(b3, .inl (cs 0, 48, .inl S3_630h))], [(b4, .inl (cs 0, 48, .inl S4_630h))], [(b5, .inl (cs 0, 40, .inl S5_630h))], [(b6, .inl (cs 0, 32, .inl S6_630h))], (w_X10 ad (0) cs en S7_630h)]) (L' := [[(b1, .inl (cs 0, 8, .inl S1))], [(b2, .inl (cs 0, 24, .inl S2_630h))], [(b3, .inl (cs 0, 48, .inl S3_630h))], [(b4, .inl (cs 0, 48, .inl S4_630h))], [(b5, .inl (cs 0, 40, .inl S5_630h))], [(b6, .inl (cs 0, 32, .inl S6_630h))], (w_X10 ad (0) cs en q635.2)]) (Wc := [(w_X10 ad (0) cs en S7_630h)]) (Wc' := [(w_X10 ad (0) cs en q635.2)]) (is := [6]) (js := [0, 1, 2, 3, 4, 5]) ⟨hx, hb, hml, hown, hts⟩ (k_X10_full l dC dI cs ad en H.size S7_630h v9_630 v10_630 q635.1 q635.2 gq635) (cwV 2 hts gL_rides_X10_full rfl rfl rfl cd_X10_full ⟨Nat.le_of_ble_eq_true rfl, Nat.le_of_ble_eq_true rfl⟩) hK hP hD hS hA (jx_6 (w_X10_fst ad 0 cs en _ _)) (jn_nd (is := [6]) hD rfl rfl) 6 8 rfl rfl rfl rfl rfl hl.1 (Nat.le_of_ble_eq_true rfl) dL_rides_635 ⟨Nat.le_of_ble_eq_true rfl, Nat.le_of_ble_eq_true rfl⟩ (fun H635 locs635 hP' hD' hS' => ?_)
    replace hS := hS'
    replace hP : va_P (dC, dI) vwCl (fl [[(b1, .inl (cs 0, 8, .inl S1))], [(b2, .inl (cs 0, 24, .inl S2_630h))], [(b3, .inl (cs 0, 48, .inl S3_630h))], [(b4, .inl (cs 0, 48, .inl S4_630h))], [(b5, .inl (cs 0, 40, .inl S5_630h))], [(b6, .inl (cs 0, 32, .inl S6_630h))], (w_X10 ad (0) cs en q635.2)]) H635 := hP'
    replace hD : va_D A (fl [[(b1, .inl (cs 0, 8, .inl S1))], [(b2, .inl (cs 0, 24, .inl S2_630h))], [(b3, .inl (cs 0, 48, .inl S3_630h))], [(b4, .inl (cs 0, 48, .inl S4_630h))], [(b5, .inl (cs 0, 40, .inl S5_630h))], [(b6, .inl (cs 0, 32, .inl S6_630h))], (w_X10 ad (0) cs en q635.2)]) := hD'
    clear hP' hD' hS'
    refine lv_bipush (v := (-2)) hx hb dL_rides_638 bp_m2 ?_
    refine lv_icmp_ne (tgt := 647) hx hb dL_rides_640 (by decide) (fun c640 => ?_) (fun c640 => ?_)
    · replace hR := it_f hR c640
      refine lv_iconst (v := 0) hx hb dL_rides_647 ic_0 ?_
      replace hR := Option.some.inj hR
      obtain ⟨e9, hR⟩ := Prod.mk.inj hR
      obtain ⟨eu2, hR⟩ := Prod.mk.inj hR
      obtain ⟨eu3, hR⟩ := Prod.mk.inj hR
      obtain ⟨eu4, hR⟩ := Prod.mk.inj hR
      obtain ⟨eu5, hR⟩ := Prod.mk.inj hR
      obtain ⟨eu6, hR⟩ := Prod.mk.inj hR
      have eu7 := hR
      replace hP : va_P (dC, dI) vwCl (fl [[(b1, .inl (cs 0, 8, .inl S1))], [(b2, .inl (cs 0, 24, .inl u2))], [(b3, .inl (cs 0, 48, .inl u3))], [(b4, .inl (cs 0, 48, .inl u4))], [(b5, .inl (cs 0, 40, .inl u5))], [(b6, .inl (cs 0, 32, .inl u6))], (w_X10 ad (0) cs en u7)]) H635 := by rw [← eu2, ← eu3, ← eu4, ← eu5, ← eu6, ← eu7]; exact hP
      replace hD : va_D A (fl [[(b1, .inl (cs 0, 8, .inl S1))], [(b2, .inl (cs 0, 24, .inl u2))], [(b3, .inl (cs 0, 48, .inl u3))], [(b4, .inl (cs 0, 48, .inl u4))], [(b5, .inl (cs 0, 40, .inl u5))], [(b6, .inl (cs 0, 32, .inl u6))], (w_X10 ad (0) cs en u7)]) := by rw [← eu2, ← eu3, ← eu4, ← eu5, ← eu6, ← eu7]; exact hD
      exact W.zret (ty := .boolean) hx hb hr (by decide) (fun t ht hW => ⟨⟨_, (), rfl, e9, by rw [ht]; exact hP, va_K.moved hW.alike hK, hD⟩, hS.F ht⟩) hS.2.2 dL_rides_648
    · replace hR := it_t hR c640
      refine lv_iconst (v := 1) hx hb dL_rides_643 ic_1 ?_
      refine lv_goto (tgt := 648) hx hb dL_rides_644 (by decide) ?_
      replace hR := Option.some.inj hR
      obtain ⟨e9, hR⟩ := Prod.mk.inj hR
      obtain ⟨eu2, hR⟩ := Prod.mk.inj hR
      obtain ⟨eu3, hR⟩ := Prod.mk.inj hR
      obtain ⟨eu4, hR⟩ := Prod.mk.inj hR
      obtain ⟨eu5, hR⟩ := Prod.mk.inj hR
      obtain ⟨eu6, hR⟩ := Prod.mk.inj hR
      have eu7 := hR
      replace hP : va_P (dC, dI) vwCl (fl [[(b1, .inl (cs 0, 8, .inl S1))], [(b2, .inl (cs 0, 24, .inl u2))], [(b3, .inl (cs 0, 48, .inl u3))], [(b4, .inl (cs 0, 48, .inl u4))], [(b5, .inl (cs 0, 40, .inl u5))], [(b6, .inl (cs 0, 32, .inl u6))], (w_X10 ad (0) cs en u7)]) H635 := by rw [← eu2, ← eu3, ← eu4, ← eu5, ← eu6, ← eu7]; exact hP
      replace hD : va_D A (fl [[(b1, .inl (cs 0, 8, .inl S1))], [(b2, .inl (cs 0, 24, .inl u2))], [(b3, .inl (cs 0, 48, .inl u3))], [(b4, .inl (cs 0, 48, .inl u4))], [(b5, .inl (cs 0, 40, .inl u5))], [(b6, .inl (cs 0, 32, .inl u6))], (w_X10 ad (0) cs en u7)]) := by rw [← eu2, ← eu3, ← eu4, ← eu5, ← eu6, ← eu7]; exact hD
      exact W.zret (ty := .boolean) hx hb hr (by decide) (fun t ht hW => ⟨⟨_, (), rfl, e9, by rw [ht]; exact hP, va_K.moved hW.alike hK, hD⟩, hS.F ht⟩) hS.2.2 dL_rides_648
  have hB444 : ∀ (S2_444h : T1) (S3_444h : T1) (S4_444h : T1) (S5_444h : T1) (S6_444h : T1) (S7_444h : T5) (v9_444 : Int32) (v10_444 : Int32) (H : Heap) (locs : List Loc) (ls : Array Slot), fL_rides_444 S1 p7 p8 S2_444h S3_444h S4_444h S5_444h S6_444h S7_444h v9_444 v10_444 = some (r, u2, u3, u4, u5, u6, u7) → va_P (dC, dI) vwCl (fl [[(b1, .inl (cs 0, 8, .inl S1))], [(b2, .inl (cs 0, 24, .inl S2_444h))], [(b3, .inl (cs 0, 48, .inl S3_444h))], [(b4, .inl (cs 0, 48, .inl S4_444h))], [(b5, .inl (cs 0, 40, .inl S5_444h))], [(b6, .inl (cs 0, 32, .inl S6_444h))], (w_X10 ad (0) cs en S7_444h)]) H → va_D A (fl [[(b1, .inl (cs 0, 8, .inl S1))], [(b2, .inl (cs 0, 24, .inl S2_444h))], [(b3, .inl (cs 0, 48, .inl S3_444h))], [(b4, .inl (cs 0, 48, .inl S4_444h))], [(b5, .inl (cs 0, 40, .inl S5_444h))], [(b6, .inl (cs 0, 32, .inl S6_444h))], (w_X10 ad (0) cs en S7_444h)]) → va_S A s.heap H locs → lv_has ls 15 [(0, .ref (ad 0)), (9, .int v9_444), (10, .int v10_444)] → W p l e (headSpec wsL_rides ({ frames := 6, cells := 0, slots := 0, locals := 137 } : Room)).room s m ([.ref (ad 0), .ref b1, .ref b2, .ref b3, .ref b4, .ref b5, .ref b6, .int p7, .int p8] : List Value).toArray below meth c H locs 0 0 (MQ below (QI dC dI (tyL cs) A (fl [[(b1, .inl (cs 0, 8, .inl S1))], [(b2, .inl (cs 0, 24, .inl u2))], [(b3, .inl (cs 0, 48, .inl u3))], [(b4, .inl (cs 0, 48, .inl u4))], [(b5, .inl (cs 0, 40, .inl u5))], [(b6, .inl (cs 0, 32, .inl u6))], (w_X10 ad (0) cs en u7)]) r) ([.ref (ad 0), .ref b1, .ref b2, .ref b3, .ref b4, .ref b5, .ref b6, .int p7, .int p8] : List Value).toArray s 0 0 A) (F0 m 444 ls []) := by
    intro S2_444h S3_444h S4_444h S5_444h S6_444h S7_444h v9_444 v10_444 H locs ls hR hP hD hS hl
    refine lv_aload_n hx hb dL_rides_444 rfl (lv_at hl 0 rfl) ?_
    refine lv_iload hx hb dL_rides_445 (lv_at hl 1 rfl) ?_
    refine lv_iload hx hb dL_rides_447 (lv_at hl 2 rfl) ?_
    replace hR := bd_e hR
    obtain ⟨q449, gq449, hR⟩ := hR
    refine cm_Vi (As := [.int v9_444, .int v10_444]) (rest := []) (L := [[(b1, .inl (cs 0, 8, .inl S1))], [(b2, .inl (cs 0, 24, .inl S2_444h))], [(b3, .inl (cs 0, 48, .inl S3_444h))], [(b4, .inl (cs 0, 48, .inl S4_444h))], [(b5, .inl (cs 0, 40, .inl S5_444h))], [(b6, .inl (cs 0, 32, .inl S6_444h))], (w_X10 ad (0) cs en S7_444h)]) (L' := [[(b1, .inl (cs 0, 8, .inl S1))], [(b2, .inl (cs 0, 24, .inl S2_444h))], [(b3, .inl (cs 0, 48, .inl S3_444h))], [(b4, .inl (cs 0, 48, .inl S4_444h))], [(b5, .inl (cs 0, 40, .inl S5_444h))], [(b6, .inl (cs 0, 32, .inl S6_444h))], (w_X10 ad (0) cs en q449.2)]) (Wc := [(w_X10 ad (0) cs en S7_444h)]) (Wc' := [(w_X10 ad (0) cs en q449.2)]) (is := [6]) (js := [0, 1, 2, 3, 4, 5]) ⟨hx, hb, hml, hown, hts⟩ (k_X10_back l dC dI cs ad en H.size S7_444h v9_444 v10_444 q449.1 q449.2 gq449) (cwV 2 hts gL_rides_X10_back rfl rfl rfl cd_X10_back ⟨Nat.le_of_ble_eq_true rfl, Nat.le_of_ble_eq_true rfl⟩) hK hP hD hS hA (jx_6 (w_X10_fst ad 0 cs en _ _)) (jn_nd (is := [6]) hD rfl rfl) 6 8 rfl rfl rfl rfl rfl hl.1 (Nat.le_of_ble_eq_true rfl) dL_rides_449 ⟨Nat.le_of_ble_eq_true rfl, Nat.le_of_ble_eq_true rfl⟩ (fun H449 locs449 hP' hD' hS' => ?_)
    replace hS := hS'
    replace hP : va_P (dC, dI) vwCl (fl [[(b1, .inl (cs 0, 8, .inl S1))], [(b2, .inl (cs 0, 24, .inl S2_444h))], [(b3, .inl (cs 0, 48, .inl S3_444h))], [(b4, .inl (cs 0, 48, .inl S4_444h))], [(b5, .inl (cs 0, 40, .inl S5_444h))], [(b6, .inl (cs 0, 32, .inl S6_444h))], (w_X10 ad (0) cs en q449.2)]) H449 := hP'
    replace hD : va_D A (fl [[(b1, .inl (cs 0, 8, .inl S1))], [(b2, .inl (cs 0, 24, .inl S2_444h))], [(b3, .inl (cs 0, 48, .inl S3_444h))], [(b4, .inl (cs 0, 48, .inl S4_444h))], [(b5, .inl (cs 0, 40, .inl S5_444h))], [(b6, .inl (cs 0, 32, .inl S6_444h))], (w_X10 ad (0) cs en q449.2)]) := hD'
    clear hP' hD' hS'
    refine lv_bipush (v := (-2)) hx hb dL_rides_452 bp_m2 ?_
    refine lv_icmp_ne (tgt := 461) hx hb dL_rides_454 (by decide) (fun c454 => ?_) (fun c454 => ?_)
    · replace hR := it_f hR c454
      refine lv_iconst (v := 0) hx hb dL_rides_461 ic_0 ?_
      replace hR := Option.some.inj hR
      obtain ⟨e9, hR⟩ := Prod.mk.inj hR
      obtain ⟨eu2, hR⟩ := Prod.mk.inj hR
      obtain ⟨eu3, hR⟩ := Prod.mk.inj hR
      obtain ⟨eu4, hR⟩ := Prod.mk.inj hR
      obtain ⟨eu5, hR⟩ := Prod.mk.inj hR
      obtain ⟨eu6, hR⟩ := Prod.mk.inj hR
      have eu7 := hR
      replace hP : va_P (dC, dI) vwCl (fl [[(b1, .inl (cs 0, 8, .inl S1))], [(b2, .inl (cs 0, 24, .inl u2))], [(b3, .inl (cs 0, 48, .inl u3))], [(b4, .inl (cs 0, 48, .inl u4))], [(b5, .inl (cs 0, 40, .inl u5))], [(b6, .inl (cs 0, 32, .inl u6))], (w_X10 ad (0) cs en u7)]) H449 := by rw [← eu2, ← eu3, ← eu4, ← eu5, ← eu6, ← eu7]; exact hP
      replace hD : va_D A (fl [[(b1, .inl (cs 0, 8, .inl S1))], [(b2, .inl (cs 0, 24, .inl u2))], [(b3, .inl (cs 0, 48, .inl u3))], [(b4, .inl (cs 0, 48, .inl u4))], [(b5, .inl (cs 0, 40, .inl u5))], [(b6, .inl (cs 0, 32, .inl u6))], (w_X10 ad (0) cs en u7)]) := by rw [← eu2, ← eu3, ← eu4, ← eu5, ← eu6, ← eu7]; exact hD
      exact W.zret (ty := .boolean) hx hb hr (by decide) (fun t ht hW => ⟨⟨_, (), rfl, e9, by rw [ht]; exact hP, va_K.moved hW.alike hK, hD⟩, hS.F ht⟩) hS.2.2 dL_rides_462
    · replace hR := it_t hR c454
      refine lv_iconst (v := 1) hx hb dL_rides_457 ic_1 ?_
      refine lv_goto (tgt := 462) hx hb dL_rides_458 (by decide) ?_
      replace hR := Option.some.inj hR
      obtain ⟨e9, hR⟩ := Prod.mk.inj hR
      obtain ⟨eu2, hR⟩ := Prod.mk.inj hR
      obtain ⟨eu3, hR⟩ := Prod.mk.inj hR
      obtain ⟨eu4, hR⟩ := Prod.mk.inj hR
      obtain ⟨eu5, hR⟩ := Prod.mk.inj hR
      obtain ⟨eu6, hR⟩ := Prod.mk.inj hR
      have eu7 := hR
      replace hP : va_P (dC, dI) vwCl (fl [[(b1, .inl (cs 0, 8, .inl S1))], [(b2, .inl (cs 0, 24, .inl u2))], [(b3, .inl (cs 0, 48, .inl u3))], [(b4, .inl (cs 0, 48, .inl u4))], [(b5, .inl (cs 0, 40, .inl u5))], [(b6, .inl (cs 0, 32, .inl u6))], (w_X10 ad (0) cs en u7)]) H449 := by rw [← eu2, ← eu3, ← eu4, ← eu5, ← eu6, ← eu7]; exact hP
      replace hD : va_D A (fl [[(b1, .inl (cs 0, 8, .inl S1))], [(b2, .inl (cs 0, 24, .inl u2))], [(b3, .inl (cs 0, 48, .inl u3))], [(b4, .inl (cs 0, 48, .inl u4))], [(b5, .inl (cs 0, 40, .inl u5))], [(b6, .inl (cs 0, 32, .inl u6))], (w_X10 ad (0) cs en u7)]) := by rw [← eu2, ← eu3, ← eu4, ← eu5, ← eu6, ← eu7]; exact hD
      exact W.zret (ty := .boolean) hx hb hr (by decide) (fun t ht hW => ⟨⟨_, (), rfl, e9, by rw [ht]; exact hP, va_K.moved hW.alike hK, hD⟩, hS.F ht⟩) hS.2.2 dL_rides_462
  have hB380 : ∀ (S2_380h : T1) (S3_380h : T1) (S4_380h : T1) (S5_380h : T1) (S6_380h : T1) (S7_380h : T5) (v9_380 : Int32) (v10_380 : Int32) (v12_380 : Int32) (t1_380 : Int32) (t2_380 : Int32) (H : Heap) (locs : List Loc) (ls : Array Slot), fL_rides_380 S1 p7 p8 S2_380h S3_380h S4_380h S5_380h S6_380h S7_380h v9_380 v10_380 v12_380 t1_380 t2_380 = some (r, u2, u3, u4, u5, u6, u7) → va_P (dC, dI) vwCl (fl [[(b1, .inl (cs 0, 8, .inl S1))], [(b2, .inl (cs 0, 24, .inl S2_380h))], [(b3, .inl (cs 0, 48, .inl S3_380h))], [(b4, .inl (cs 0, 48, .inl S4_380h))], [(b5, .inl (cs 0, 40, .inl S5_380h))], [(b6, .inl (cs 0, 32, .inl S6_380h))], (w_X10 ad (0) cs en S7_380h)]) H → va_D A (fl [[(b1, .inl (cs 0, 8, .inl S1))], [(b2, .inl (cs 0, 24, .inl S2_380h))], [(b3, .inl (cs 0, 48, .inl S3_380h))], [(b4, .inl (cs 0, 48, .inl S4_380h))], [(b5, .inl (cs 0, 40, .inl S5_380h))], [(b6, .inl (cs 0, 32, .inl S6_380h))], (w_X10 ad (0) cs en S7_380h)]) → va_S A s.heap H locs → lv_has ls 15 [(0, .ref (ad 0)), (2, .ref b2), (6, .ref b6), (9, .int v9_380), (10, .int v10_380), (12, .int v12_380)] → W p l e (headSpec wsL_rides ({ frames := 6, cells := 0, slots := 0, locals := 137 } : Room)).room s m ([.ref (ad 0), .ref b1, .ref b2, .ref b3, .ref b4, .ref b5, .ref b6, .int p7, .int p8] : List Value).toArray below meth c H locs 0 0 (MQ below (QI dC dI (tyL cs) A (fl [[(b1, .inl (cs 0, 8, .inl S1))], [(b2, .inl (cs 0, 24, .inl u2))], [(b3, .inl (cs 0, 48, .inl u3))], [(b4, .inl (cs 0, 48, .inl u4))], [(b5, .inl (cs 0, 40, .inl u5))], [(b6, .inl (cs 0, 32, .inl u6))], (w_X10 ad (0) cs en u7)]) r) ([.ref (ad 0), .ref b1, .ref b2, .ref b3, .ref b4, .ref b5, .ref b6, .int p7, .int p8] : List Value).toArray s 0 0 A) (F0 m 380 ls [.int t2_380, .int t1_380, .ref b5]) := by
    intro S2_380h S3_380h S4_380h S5_380h S6_380h S7_380h v9_380 v10_380 v12_380 t1_380 t2_380 H locs ls hR hP hD hS hl
    replace hR := gi_e hR
    obtain ⟨i380, hR⟩ := hR
    refine va_iast hx hb hK hP hD hS 4 0 rfl rfl i380 dL_rides_380 (fun H380 locs380 hP' hD' hS' => ?_)
    replace hS := hS'
    have hP' : va_P (dC, dI) vwCl (fl [[(b1, .inl (cs 0, 8, .inl S1))], [(b2, .inl (cs 0, 24, .inl S2_380h))], [(b3, .inl (cs 0, 48, .inl S3_380h))], [(b4, .inl (cs 0, 48, .inl S4_380h))], [(b5, .inl (cs 0, 40, .inl (sU S5_380h t1_380.toNatClampNeg t2_380)))], [(b6, .inl (cs 0, 32, .inl S6_380h))], (w_X10 ad (0) cs en S7_380h)]) H380 := hP'
    have hD' : va_D A (fl [[(b1, .inl (cs 0, 8, .inl S1))], [(b2, .inl (cs 0, 24, .inl S2_380h))], [(b3, .inl (cs 0, 48, .inl S3_380h))], [(b4, .inl (cs 0, 48, .inl S4_380h))], [(b5, .inl (cs 0, 40, .inl (sU S5_380h t1_380.toNatClampNeg t2_380)))], [(b6, .inl (cs 0, 32, .inl S6_380h))], (w_X10 ad (0) cs en S7_380h)]) := hD'
    replace hR := bn_e hR
    obtain ⟨S5_380, eS5_380, hR⟩ := hR
    replace hP : va_P (dC, dI) vwCl (fl [[(b1, .inl (cs 0, 8, .inl S1))], [(b2, .inl (cs 0, 24, .inl S2_380h))], [(b3, .inl (cs 0, 48, .inl S3_380h))], [(b4, .inl (cs 0, 48, .inl S4_380h))], [(b5, .inl (cs 0, 40, .inl S5_380))], [(b6, .inl (cs 0, 32, .inl S6_380h))], (w_X10 ad (0) cs en S7_380h)]) H380 := by rw [eS5_380]; exact hP'
    replace hD : va_D A (fl [[(b1, .inl (cs 0, 8, .inl S1))], [(b2, .inl (cs 0, 24, .inl S2_380h))], [(b3, .inl (cs 0, 48, .inl S3_380h))], [(b4, .inl (cs 0, 48, .inl S4_380h))], [(b5, .inl (cs 0, 40, .inl S5_380))], [(b6, .inl (cs 0, 32, .inl S6_380h))], (w_X10 ad (0) cs en S7_380h)]) := by rw [eS5_380]; exact hD'
    clear hP' hD' hS'
    refine lv_aload hx hb dL_rides_381 (lv_at hl 2 rfl) ?_
    refine lv_iconst (v := 4) hx hb dL_rides_383 ic_4 ?_
    refine lv_iload hx hb dL_rides_384 (lv_at hl 3 rfl) ?_
    refine lv_imul hx hb dL_rides_386 ?_
    refine lv_iconst (v := 1) hx hb dL_rides_387 ic_1 ?_
    refine lv_iadd hx hb dL_rides_388 ?_
    refine lv_iconst (v := 0) hx hb dL_rides_389 ic_0 ?_
    replace hR := gi_e hR
    obtain ⟨i390, hR⟩ := hR
    refine va_iast hx hb hK hP hD hS 5 0 rfl rfl i390 dL_rides_390 (fun H390 locs390 hP' hD' hS' => ?_)
    replace hS := hS'
    have hP' : va_P (dC, dI) vwCl (fl [[(b1, .inl (cs 0, 8, .inl S1))], [(b2, .inl (cs 0, 24, .inl S2_380h))], [(b3, .inl (cs 0, 48, .inl S3_380h))], [(b4, .inl (cs 0, 48, .inl S4_380h))], [(b5, .inl (cs 0, 40, .inl S5_380))], [(b6, .inl (cs 0, 32, .inl (sU S6_380h (((4 : Int32) * v9_380) + 1).toNatClampNeg (0 : Int32))))], (w_X10 ad (0) cs en S7_380h)]) H390 := hP'
    have hD' : va_D A (fl [[(b1, .inl (cs 0, 8, .inl S1))], [(b2, .inl (cs 0, 24, .inl S2_380h))], [(b3, .inl (cs 0, 48, .inl S3_380h))], [(b4, .inl (cs 0, 48, .inl S4_380h))], [(b5, .inl (cs 0, 40, .inl S5_380))], [(b6, .inl (cs 0, 32, .inl (sU S6_380h (((4 : Int32) * v9_380) + 1).toNatClampNeg (0 : Int32))))], (w_X10 ad (0) cs en S7_380h)]) := hD'
    replace hR := bn_e hR
    obtain ⟨S6_390, eS6_390, hR⟩ := hR
    replace hP : va_P (dC, dI) vwCl (fl [[(b1, .inl (cs 0, 8, .inl S1))], [(b2, .inl (cs 0, 24, .inl S2_380h))], [(b3, .inl (cs 0, 48, .inl S3_380h))], [(b4, .inl (cs 0, 48, .inl S4_380h))], [(b5, .inl (cs 0, 40, .inl S5_380))], [(b6, .inl (cs 0, 32, .inl S6_390))], (w_X10 ad (0) cs en S7_380h)]) H390 := by rw [eS6_390]; exact hP'
    replace hD : va_D A (fl [[(b1, .inl (cs 0, 8, .inl S1))], [(b2, .inl (cs 0, 24, .inl S2_380h))], [(b3, .inl (cs 0, 48, .inl S3_380h))], [(b4, .inl (cs 0, 48, .inl S4_380h))], [(b5, .inl (cs 0, 40, .inl S5_380))], [(b6, .inl (cs 0, 32, .inl S6_390))], (w_X10 ad (0) cs en S7_380h)]) := by rw [eS6_390]; exact hD'
    clear hP' hD' hS'
    refine lv_aload_n hx hb dL_rides_391 rfl (lv_at hl 1 rfl) ?_
    refine lv_iconst (v := 4) hx hb dL_rides_392 ic_4 ?_
    refine lv_iload hx hb dL_rides_393 (lv_at hl 4 rfl) ?_
    refine lv_imul hx hb dL_rides_395 ?_
    refine lv_iconst (v := 2) hx hb dL_rides_396 ic_2 ?_
    refine lv_iadd hx hb dL_rides_397 ?_
    refine lv_dup2_11 hx hb dL_rides_398 rfl rfl ?_
    replace hR := gi_e hR
    obtain ⟨i399, hR⟩ := hR
    refine va_iald hx hb hK hP 1 0 rfl rfl i399 dL_rides_399 ?_
    refine lv_iconst (v := 1) hx hb dL_rides_400 ic_1 ?_
    refine lv_iadd hx hb dL_rides_401 ?_
    replace hR := gi_e hR
    obtain ⟨i402, hR⟩ := hR
    refine va_iast hx hb hK hP hD hS 1 0 rfl rfl i402 dL_rides_402 (fun H402 locs402 hP' hD' hS' => ?_)
    replace hS := hS'
    have hP' : va_P (dC, dI) vwCl (fl [[(b1, .inl (cs 0, 8, .inl S1))], [(b2, .inl (cs 0, 24, .inl (sU S2_380h (((4 : Int32) * v10_380) + 2).toNatClampNeg ((S2_380h  (((4 : Int32) * v10_380) + 2).toNatClampNeg) + 1))))], [(b3, .inl (cs 0, 48, .inl S3_380h))], [(b4, .inl (cs 0, 48, .inl S4_380h))], [(b5, .inl (cs 0, 40, .inl S5_380))], [(b6, .inl (cs 0, 32, .inl S6_390))], (w_X10 ad (0) cs en S7_380h)]) H402 := hP'
    have hD' : va_D A (fl [[(b1, .inl (cs 0, 8, .inl S1))], [(b2, .inl (cs 0, 24, .inl (sU S2_380h (((4 : Int32) * v10_380) + 2).toNatClampNeg ((S2_380h  (((4 : Int32) * v10_380) + 2).toNatClampNeg) + 1))))], [(b3, .inl (cs 0, 48, .inl S3_380h))], [(b4, .inl (cs 0, 48, .inl S4_380h))], [(b5, .inl (cs 0, 40, .inl S5_380))], [(b6, .inl (cs 0, 32, .inl S6_390))], (w_X10 ad (0) cs en S7_380h)]) := hD'
    replace hR := bn_e hR
    obtain ⟨S2_402, eS2_402, hR⟩ := hR
    replace hP : va_P (dC, dI) vwCl (fl [[(b1, .inl (cs 0, 8, .inl S1))], [(b2, .inl (cs 0, 24, .inl S2_402))], [(b3, .inl (cs 0, 48, .inl S3_380h))], [(b4, .inl (cs 0, 48, .inl S4_380h))], [(b5, .inl (cs 0, 40, .inl S5_380))], [(b6, .inl (cs 0, 32, .inl S6_390))], (w_X10 ad (0) cs en S7_380h)]) H402 := by rw [eS2_402]; exact hP'
    replace hD : va_D A (fl [[(b1, .inl (cs 0, 8, .inl S1))], [(b2, .inl (cs 0, 24, .inl S2_402))], [(b3, .inl (cs 0, 48, .inl S3_380h))], [(b4, .inl (cs 0, 48, .inl S4_380h))], [(b5, .inl (cs 0, 40, .inl S5_380))], [(b6, .inl (cs 0, 32, .inl S6_390))], (w_X10 ad (0) cs en S7_380h)]) := by rw [eS2_402]; exact hD'
    clear hP' hD' hS'
    refine lv_aload_n hx hb dL_rides_403 rfl (lv_at hl 0 rfl) ?_
    refine lv_iload hx hb dL_rides_404 (lv_at hl 3 rfl) ?_
    refine lv_iload hx hb dL_rides_406 (lv_at hl 4 rfl) ?_
    replace hR := bd_e hR
    obtain ⟨q408, gq408, hR⟩ := hR
    refine cm_Vi (As := [.int v9_380, .int v10_380]) (rest := []) (L := [[(b1, .inl (cs 0, 8, .inl S1))], [(b2, .inl (cs 0, 24, .inl S2_402))], [(b3, .inl (cs 0, 48, .inl S3_380h))], [(b4, .inl (cs 0, 48, .inl S4_380h))], [(b5, .inl (cs 0, 40, .inl S5_380))], [(b6, .inl (cs 0, 32, .inl S6_390))], (w_X10 ad (0) cs en S7_380h)]) (L' := [[(b1, .inl (cs 0, 8, .inl S1))], [(b2, .inl (cs 0, 24, .inl S2_402))], [(b3, .inl (cs 0, 48, .inl S3_380h))], [(b4, .inl (cs 0, 48, .inl S4_380h))], [(b5, .inl (cs 0, 40, .inl S5_380))], [(b6, .inl (cs 0, 32, .inl S6_390))], (w_X10 ad (0) cs en q408.2)]) (Wc := [(w_X10 ad (0) cs en S7_380h)]) (Wc' := [(w_X10 ad (0) cs en q408.2)]) (is := [6]) (js := [0, 1, 2, 3, 4, 5]) ⟨hx, hb, hml, hown, hts⟩ (k_X10_rent l dC dI cs ad en H402.size S7_380h v9_380 v10_380 q408.1 q408.2 gq408) (cwV 2 hts gL_rides_X10_rent rfl rfl rfl cd_X10_rent ⟨Nat.le_of_ble_eq_true rfl, Nat.le_of_ble_eq_true rfl⟩) hK hP hD hS hA (jx_6 (w_X10_fst ad 0 cs en _ _)) (jn_nd (is := [6]) hD rfl rfl) 6 8 rfl rfl rfl rfl rfl hl.1 (Nat.le_of_ble_eq_true rfl) dL_rides_408 ⟨Nat.le_of_ble_eq_true rfl, Nat.le_of_ble_eq_true rfl⟩ (fun H408 locs408 hP' hD' hS' => ?_)
    replace hS := hS'
    replace hP : va_P (dC, dI) vwCl (fl [[(b1, .inl (cs 0, 8, .inl S1))], [(b2, .inl (cs 0, 24, .inl S2_402))], [(b3, .inl (cs 0, 48, .inl S3_380h))], [(b4, .inl (cs 0, 48, .inl S4_380h))], [(b5, .inl (cs 0, 40, .inl S5_380))], [(b6, .inl (cs 0, 32, .inl S6_390))], (w_X10 ad (0) cs en q408.2)]) H408 := hP'
    replace hD : va_D A (fl [[(b1, .inl (cs 0, 8, .inl S1))], [(b2, .inl (cs 0, 24, .inl S2_402))], [(b3, .inl (cs 0, 48, .inl S3_380h))], [(b4, .inl (cs 0, 48, .inl S4_380h))], [(b5, .inl (cs 0, 40, .inl S5_380))], [(b6, .inl (cs 0, 32, .inl S6_390))], (w_X10 ad (0) cs en q408.2)]) := hD'
    clear hP' hD' hS'
    refine lv_iload hx hb dL_rides_411 (lv_at hl 5 rfl) ?_
    refine lv_icmp_ne (tgt := 420) hx hb dL_rides_413 (by decide) (fun c413 => ?_) (fun c413 => ?_)
    · replace hR := it_f hR c413
      refine lv_iconst (v := 0) hx hb dL_rides_420 ic_0 ?_
      replace hR := Option.some.inj hR
      obtain ⟨e9, hR⟩ := Prod.mk.inj hR
      obtain ⟨eu2, hR⟩ := Prod.mk.inj hR
      obtain ⟨eu3, hR⟩ := Prod.mk.inj hR
      obtain ⟨eu4, hR⟩ := Prod.mk.inj hR
      obtain ⟨eu5, hR⟩ := Prod.mk.inj hR
      obtain ⟨eu6, hR⟩ := Prod.mk.inj hR
      have eu7 := hR
      replace hP : va_P (dC, dI) vwCl (fl [[(b1, .inl (cs 0, 8, .inl S1))], [(b2, .inl (cs 0, 24, .inl u2))], [(b3, .inl (cs 0, 48, .inl u3))], [(b4, .inl (cs 0, 48, .inl u4))], [(b5, .inl (cs 0, 40, .inl u5))], [(b6, .inl (cs 0, 32, .inl u6))], (w_X10 ad (0) cs en u7)]) H408 := by rw [← eu2, ← eu3, ← eu4, ← eu5, ← eu6, ← eu7]; exact hP
      replace hD : va_D A (fl [[(b1, .inl (cs 0, 8, .inl S1))], [(b2, .inl (cs 0, 24, .inl u2))], [(b3, .inl (cs 0, 48, .inl u3))], [(b4, .inl (cs 0, 48, .inl u4))], [(b5, .inl (cs 0, 40, .inl u5))], [(b6, .inl (cs 0, 32, .inl u6))], (w_X10 ad (0) cs en u7)]) := by rw [← eu2, ← eu3, ← eu4, ← eu5, ← eu6, ← eu7]; exact hD
      exact W.zret (ty := .boolean) hx hb hr (by decide) (fun t ht hW => ⟨⟨_, (), rfl, e9, by rw [ht]; exact hP, va_K.moved hW.alike hK, hD⟩, hS.F ht⟩) hS.2.2 dL_rides_421
    · replace hR := it_t hR c413
      refine lv_iconst (v := 1) hx hb dL_rides_416 ic_1 ?_
      refine lv_goto (tgt := 421) hx hb dL_rides_417 (by decide) ?_
      replace hR := Option.some.inj hR
      obtain ⟨e9, hR⟩ := Prod.mk.inj hR
      obtain ⟨eu2, hR⟩ := Prod.mk.inj hR
      obtain ⟨eu3, hR⟩ := Prod.mk.inj hR
      obtain ⟨eu4, hR⟩ := Prod.mk.inj hR
      obtain ⟨eu5, hR⟩ := Prod.mk.inj hR
      obtain ⟨eu6, hR⟩ := Prod.mk.inj hR
      have eu7 := hR
      replace hP : va_P (dC, dI) vwCl (fl [[(b1, .inl (cs 0, 8, .inl S1))], [(b2, .inl (cs 0, 24, .inl u2))], [(b3, .inl (cs 0, 48, .inl u3))], [(b4, .inl (cs 0, 48, .inl u4))], [(b5, .inl (cs 0, 40, .inl u5))], [(b6, .inl (cs 0, 32, .inl u6))], (w_X10 ad (0) cs en u7)]) H408 := by rw [← eu2, ← eu3, ← eu4, ← eu5, ← eu6, ← eu7]; exact hP
      replace hD : va_D A (fl [[(b1, .inl (cs 0, 8, .inl S1))], [(b2, .inl (cs 0, 24, .inl u2))], [(b3, .inl (cs 0, 48, .inl u3))], [(b4, .inl (cs 0, 48, .inl u4))], [(b5, .inl (cs 0, 40, .inl u5))], [(b6, .inl (cs 0, 32, .inl u6))], (w_X10 ad (0) cs en u7)]) := by rw [← eu2, ← eu3, ← eu4, ← eu5, ← eu6, ← eu7]; exact hD
      exact W.zret (ty := .boolean) hx hb hr (by decide) (fun t ht hW => ⟨⟨_, (), rfl, e9, by rw [ht]; exact hP, va_K.moved hW.alike hK, hD⟩, hS.F ht⟩) hS.2.2 dL_rides_421
  have hB353 : ∀ (S2_353h : T1) (S3_353h : T1) (S4_353h : T1) (S5_353h : T1) (S6_353h : T1) (S7_353h : T5) (v9_353 : Int32) (v10_353 : Int32) (v12_353 : Int32) (t1_353 : Int32) (t2_353 : Int32) (H : Heap) (locs : List Loc) (ls : Array Slot), fL_rides_353 S1 p7 p8 S2_353h S3_353h S4_353h S5_353h S6_353h S7_353h v9_353 v10_353 v12_353 t1_353 t2_353 = some (r, u2, u3, u4, u5, u6, u7) → va_P (dC, dI) vwCl (fl [[(b1, .inl (cs 0, 8, .inl S1))], [(b2, .inl (cs 0, 24, .inl S2_353h))], [(b3, .inl (cs 0, 48, .inl S3_353h))], [(b4, .inl (cs 0, 48, .inl S4_353h))], [(b5, .inl (cs 0, 40, .inl S5_353h))], [(b6, .inl (cs 0, 32, .inl S6_353h))], (w_X10 ad (0) cs en S7_353h)]) H → va_D A (fl [[(b1, .inl (cs 0, 8, .inl S1))], [(b2, .inl (cs 0, 24, .inl S2_353h))], [(b3, .inl (cs 0, 48, .inl S3_353h))], [(b4, .inl (cs 0, 48, .inl S4_353h))], [(b5, .inl (cs 0, 40, .inl S5_353h))], [(b6, .inl (cs 0, 32, .inl S6_353h))], (w_X10 ad (0) cs en S7_353h)]) → va_S A s.heap H locs → lv_has ls 15 [(0, .ref (ad 0)), (1, .ref b1), (2, .ref b2), (5, .ref b5), (6, .ref b6), (9, .int v9_353), (10, .int v10_353), (12, .int v12_353)] → W p l e (headSpec wsL_rides ({ frames := 6, cells := 0, slots := 0, locals := 137 } : Room)).room s m ([.ref (ad 0), .ref b1, .ref b2, .ref b3, .ref b4, .ref b5, .ref b6, .int p7, .int p8] : List Value).toArray below meth c H locs 0 0 (MQ below (QI dC dI (tyL cs) A (fl [[(b1, .inl (cs 0, 8, .inl S1))], [(b2, .inl (cs 0, 24, .inl u2))], [(b3, .inl (cs 0, 48, .inl u3))], [(b4, .inl (cs 0, 48, .inl u4))], [(b5, .inl (cs 0, 40, .inl u5))], [(b6, .inl (cs 0, 32, .inl u6))], (w_X10 ad (0) cs en u7)]) r) ([.ref (ad 0), .ref b1, .ref b2, .ref b3, .ref b4, .ref b5, .ref b6, .int p7, .int p8] : List Value).toArray s 0 0 A) (F0 m 353 ls [.int t2_353, .int t1_353, .ref b6]) := by
    intro S2_353h S3_353h S4_353h S5_353h S6_353h S7_353h v9_353 v10_353 v12_353 t1_353 t2_353 H locs ls hR hP hD hS hl
    replace hR := gi_e hR
    obtain ⟨i353, hR⟩ := hR
    refine va_iast hx hb hK hP hD hS 5 0 rfl rfl i353 dL_rides_353 (fun H353 locs353 hP' hD' hS' => ?_)
    replace hS := hS'
    have hP' : va_P (dC, dI) vwCl (fl [[(b1, .inl (cs 0, 8, .inl S1))], [(b2, .inl (cs 0, 24, .inl S2_353h))], [(b3, .inl (cs 0, 48, .inl S3_353h))], [(b4, .inl (cs 0, 48, .inl S4_353h))], [(b5, .inl (cs 0, 40, .inl S5_353h))], [(b6, .inl (cs 0, 32, .inl (sU S6_353h t1_353.toNatClampNeg t2_353)))], (w_X10 ad (0) cs en S7_353h)]) H353 := hP'
    have hD' : va_D A (fl [[(b1, .inl (cs 0, 8, .inl S1))], [(b2, .inl (cs 0, 24, .inl S2_353h))], [(b3, .inl (cs 0, 48, .inl S3_353h))], [(b4, .inl (cs 0, 48, .inl S4_353h))], [(b5, .inl (cs 0, 40, .inl S5_353h))], [(b6, .inl (cs 0, 32, .inl (sU S6_353h t1_353.toNatClampNeg t2_353)))], (w_X10 ad (0) cs en S7_353h)]) := hD'
    replace hR := bn_e hR
    obtain ⟨S6_353, eS6_353, hR⟩ := hR
    replace hP : va_P (dC, dI) vwCl (fl [[(b1, .inl (cs 0, 8, .inl S1))], [(b2, .inl (cs 0, 24, .inl S2_353h))], [(b3, .inl (cs 0, 48, .inl S3_353h))], [(b4, .inl (cs 0, 48, .inl S4_353h))], [(b5, .inl (cs 0, 40, .inl S5_353h))], [(b6, .inl (cs 0, 32, .inl S6_353))], (w_X10 ad (0) cs en S7_353h)]) H353 := by rw [eS6_353]; exact hP'
    replace hD : va_D A (fl [[(b1, .inl (cs 0, 8, .inl S1))], [(b2, .inl (cs 0, 24, .inl S2_353h))], [(b3, .inl (cs 0, 48, .inl S3_353h))], [(b4, .inl (cs 0, 48, .inl S4_353h))], [(b5, .inl (cs 0, 40, .inl S5_353h))], [(b6, .inl (cs 0, 32, .inl S6_353))], (w_X10 ad (0) cs en S7_353h)]) := by rw [eS6_353]; exact hD'
    clear hP' hD' hS'
    refine lv_aload hx hb dL_rides_354 (lv_at hl 3 rfl) ?_
    refine lv_iconst (v := 5) hx hb dL_rides_356 ic_5 ?_
    refine lv_iload hx hb dL_rides_357 (lv_at hl 5 rfl) ?_
    refine lv_imul hx hb dL_rides_359 ?_
    refine lv_iconst (v := 4) hx hb dL_rides_360 ic_4 ?_
    refine lv_iadd hx hb dL_rides_361 ?_
    refine lv_aload hx hb dL_rides_362 (lv_at hl 4 rfl) ?_
    refine lv_iconst (v := 4) hx hb dL_rides_364 ic_4 ?_
    refine lv_iload hx hb dL_rides_365 (lv_at hl 5 rfl) ?_
    refine lv_imul hx hb dL_rides_367 ?_
    replace hR := gi_e hR
    obtain ⟨i368, hR⟩ := hR
    refine va_iald hx hb hK hP 5 0 rfl rfl i368 dL_rides_368 ?_
    refine lv_iconst (v := 1) hx hb dL_rides_369 ic_1 ?_
    refine lv_icmp_ne (tgt := 379) hx hb dL_rides_370 (by decide) (fun c370 => ?_) (fun c370 => ?_)
    · replace hR := it_f hR c370
      refine lv_iconst (v := 0) hx hb dL_rides_379 ic_0 ?_
      exact hB380 S2_353h S3_353h S4_353h S5_353h S6_353 S7_353h v9_353 v10_353 v12_353 (((5 : Int32) * v9_353) + 4) (0 : Int32) H353 _ ls hR hP hD hS (lv_sub hl [0, 2, 4, 5, 6, 7] rfl)
    · replace hR := it_t hR c370
      refine lv_aload_n hx hb dL_rides_373 rfl (lv_at hl 1 rfl) ?_
      refine lv_iconst (v := 5) hx hb dL_rides_374 ic_5 ?_
      refine va_iald hx hb hK hP 0 0 rfl rfl vi_5_8 dL_rides_375 ?_
      refine lv_goto (tgt := 380) hx hb dL_rides_376 (by decide) ?_
      exact hB380 S2_353h S3_353h S4_353h S5_353h S6_353 S7_353h v9_353 v10_353 v12_353 (((5 : Int32) * v9_353) + 4) (S1  (5 : Int32).toNatClampNeg) H353 _ ls hR hP hD hS (lv_sub hl [0, 2, 4, 5, 6, 7] rfl)
  have hB268 : ∀ (S2_268h : T1) (S3_268h : T1) (S4_268h : T1) (S5_268h : T1) (S6_268h : T1) (S7_268h : T5) (v9_268 : Int32) (v10_268 : Int32) (H : Heap) (locs : List Loc) (ls : Array Slot), fL_rides_268 S1 p7 p8 S2_268h S3_268h S4_268h S5_268h S6_268h S7_268h v9_268 v10_268 = some (r, u2, u3, u4, u5, u6, u7) → va_P (dC, dI) vwCl (fl [[(b1, .inl (cs 0, 8, .inl S1))], [(b2, .inl (cs 0, 24, .inl S2_268h))], [(b3, .inl (cs 0, 48, .inl S3_268h))], [(b4, .inl (cs 0, 48, .inl S4_268h))], [(b5, .inl (cs 0, 40, .inl S5_268h))], [(b6, .inl (cs 0, 32, .inl S6_268h))], (w_X10 ad (0) cs en S7_268h)]) H → va_D A (fl [[(b1, .inl (cs 0, 8, .inl S1))], [(b2, .inl (cs 0, 24, .inl S2_268h))], [(b3, .inl (cs 0, 48, .inl S3_268h))], [(b4, .inl (cs 0, 48, .inl S4_268h))], [(b5, .inl (cs 0, 40, .inl S5_268h))], [(b6, .inl (cs 0, 32, .inl S6_268h))], (w_X10 ad (0) cs en S7_268h)]) → va_S A s.heap H locs → lv_has ls 15 [(0, .ref (ad 0)), (9, .int v9_268), (10, .int v10_268)] → W p l e (headSpec wsL_rides ({ frames := 6, cells := 0, slots := 0, locals := 137 } : Room)).room s m ([.ref (ad 0), .ref b1, .ref b2, .ref b3, .ref b4, .ref b5, .ref b6, .int p7, .int p8] : List Value).toArray below meth c H locs 0 0 (MQ below (QI dC dI (tyL cs) A (fl [[(b1, .inl (cs 0, 8, .inl S1))], [(b2, .inl (cs 0, 24, .inl u2))], [(b3, .inl (cs 0, 48, .inl u3))], [(b4, .inl (cs 0, 48, .inl u4))], [(b5, .inl (cs 0, 40, .inl u5))], [(b6, .inl (cs 0, 32, .inl u6))], (w_X10 ad (0) cs en u7)]) r) ([.ref (ad 0), .ref b1, .ref b2, .ref b3, .ref b4, .ref b5, .ref b6, .int p7, .int p8] : List Value).toArray s 0 0 A) (F0 m 268 ls []) := by
    intro S2_268h S3_268h S4_268h S5_268h S6_268h S7_268h v9_268 v10_268 H locs ls hR hP hD hS hl
    refine lv_aload_n hx hb dL_rides_268 rfl (lv_at hl 0 rfl) ?_
    refine lv_iload hx hb dL_rides_269 (lv_at hl 1 rfl) ?_
    refine lv_iload hx hb dL_rides_271 (lv_at hl 2 rfl) ?_
    replace hR := bd_e hR
    obtain ⟨q273, gq273, hR⟩ := hR
    refine cm_Vi (As := [.int v9_268, .int v10_268]) (rest := []) (L := [[(b1, .inl (cs 0, 8, .inl S1))], [(b2, .inl (cs 0, 24, .inl S2_268h))], [(b3, .inl (cs 0, 48, .inl S3_268h))], [(b4, .inl (cs 0, 48, .inl S4_268h))], [(b5, .inl (cs 0, 40, .inl S5_268h))], [(b6, .inl (cs 0, 32, .inl S6_268h))], (w_X10 ad (0) cs en S7_268h)]) (L' := [[(b1, .inl (cs 0, 8, .inl S1))], [(b2, .inl (cs 0, 24, .inl S2_268h))], [(b3, .inl (cs 0, 48, .inl S3_268h))], [(b4, .inl (cs 0, 48, .inl S4_268h))], [(b5, .inl (cs 0, 40, .inl S5_268h))], [(b6, .inl (cs 0, 32, .inl S6_268h))], (w_X10 ad (0) cs en q273.2)]) (Wc := [(w_X10 ad (0) cs en S7_268h)]) (Wc' := [(w_X10 ad (0) cs en q273.2)]) (is := [6]) (js := [0, 1, 2, 3, 4, 5]) ⟨hx, hb, hml, hown, hts⟩ (k_X10_rent l dC dI cs ad en H.size S7_268h v9_268 v10_268 q273.1 q273.2 gq273) (cwV 2 hts gL_rides_X10_rent rfl rfl rfl cd_X10_rent ⟨Nat.le_of_ble_eq_true rfl, Nat.le_of_ble_eq_true rfl⟩) hK hP hD hS hA (jx_6 (w_X10_fst ad 0 cs en _ _)) (jn_nd (is := [6]) hD rfl rfl) 6 8 rfl rfl rfl rfl rfl hl.1 (Nat.le_of_ble_eq_true rfl) dL_rides_273 ⟨Nat.le_of_ble_eq_true rfl, Nat.le_of_ble_eq_true rfl⟩ (fun H273 locs273 hP' hD' hS' => ?_)
    replace hS := hS'
    replace hP : va_P (dC, dI) vwCl (fl [[(b1, .inl (cs 0, 8, .inl S1))], [(b2, .inl (cs 0, 24, .inl S2_268h))], [(b3, .inl (cs 0, 48, .inl S3_268h))], [(b4, .inl (cs 0, 48, .inl S4_268h))], [(b5, .inl (cs 0, 40, .inl S5_268h))], [(b6, .inl (cs 0, 32, .inl S6_268h))], (w_X10 ad (0) cs en q273.2)]) H273 := hP'
    replace hD : va_D A (fl [[(b1, .inl (cs 0, 8, .inl S1))], [(b2, .inl (cs 0, 24, .inl S2_268h))], [(b3, .inl (cs 0, 48, .inl S3_268h))], [(b4, .inl (cs 0, 48, .inl S4_268h))], [(b5, .inl (cs 0, 40, .inl S5_268h))], [(b6, .inl (cs 0, 32, .inl S6_268h))], (w_X10 ad (0) cs en q273.2)]) := hD'
    clear hP' hD' hS'
    refine lv_bipush (v := (-2)) hx hb dL_rides_276 bp_m2 ?_
    refine lv_icmp_ne (tgt := 285) hx hb dL_rides_278 (by decide) (fun c278 => ?_) (fun c278 => ?_)
    · replace hR := it_f hR c278
      refine lv_iconst (v := 0) hx hb dL_rides_285 ic_0 ?_
      replace hR := Option.some.inj hR
      obtain ⟨e9, hR⟩ := Prod.mk.inj hR
      obtain ⟨eu2, hR⟩ := Prod.mk.inj hR
      obtain ⟨eu3, hR⟩ := Prod.mk.inj hR
      obtain ⟨eu4, hR⟩ := Prod.mk.inj hR
      obtain ⟨eu5, hR⟩ := Prod.mk.inj hR
      obtain ⟨eu6, hR⟩ := Prod.mk.inj hR
      have eu7 := hR
      replace hP : va_P (dC, dI) vwCl (fl [[(b1, .inl (cs 0, 8, .inl S1))], [(b2, .inl (cs 0, 24, .inl u2))], [(b3, .inl (cs 0, 48, .inl u3))], [(b4, .inl (cs 0, 48, .inl u4))], [(b5, .inl (cs 0, 40, .inl u5))], [(b6, .inl (cs 0, 32, .inl u6))], (w_X10 ad (0) cs en u7)]) H273 := by rw [← eu2, ← eu3, ← eu4, ← eu5, ← eu6, ← eu7]; exact hP
      replace hD : va_D A (fl [[(b1, .inl (cs 0, 8, .inl S1))], [(b2, .inl (cs 0, 24, .inl u2))], [(b3, .inl (cs 0, 48, .inl u3))], [(b4, .inl (cs 0, 48, .inl u4))], [(b5, .inl (cs 0, 40, .inl u5))], [(b6, .inl (cs 0, 32, .inl u6))], (w_X10 ad (0) cs en u7)]) := by rw [← eu2, ← eu3, ← eu4, ← eu5, ← eu6, ← eu7]; exact hD
      exact W.zret (ty := .boolean) hx hb hr (by decide) (fun t ht hW => ⟨⟨_, (), rfl, e9, by rw [ht]; exact hP, va_K.moved hW.alike hK, hD⟩, hS.F ht⟩) hS.2.2 dL_rides_286
    · replace hR := it_t hR c278
      refine lv_iconst (v := 1) hx hb dL_rides_281 ic_1 ?_
      refine lv_goto (tgt := 286) hx hb dL_rides_282 (by decide) ?_
      replace hR := Option.some.inj hR
      obtain ⟨e9, hR⟩ := Prod.mk.inj hR
      obtain ⟨eu2, hR⟩ := Prod.mk.inj hR
      obtain ⟨eu3, hR⟩ := Prod.mk.inj hR
      obtain ⟨eu4, hR⟩ := Prod.mk.inj hR
      obtain ⟨eu5, hR⟩ := Prod.mk.inj hR
      obtain ⟨eu6, hR⟩ := Prod.mk.inj hR
      have eu7 := hR
      replace hP : va_P (dC, dI) vwCl (fl [[(b1, .inl (cs 0, 8, .inl S1))], [(b2, .inl (cs 0, 24, .inl u2))], [(b3, .inl (cs 0, 48, .inl u3))], [(b4, .inl (cs 0, 48, .inl u4))], [(b5, .inl (cs 0, 40, .inl u5))], [(b6, .inl (cs 0, 32, .inl u6))], (w_X10 ad (0) cs en u7)]) H273 := by rw [← eu2, ← eu3, ← eu4, ← eu5, ← eu6, ← eu7]; exact hP
      replace hD : va_D A (fl [[(b1, .inl (cs 0, 8, .inl S1))], [(b2, .inl (cs 0, 24, .inl u2))], [(b3, .inl (cs 0, 48, .inl u3))], [(b4, .inl (cs 0, 48, .inl u4))], [(b5, .inl (cs 0, 40, .inl u5))], [(b6, .inl (cs 0, 32, .inl u6))], (w_X10 ad (0) cs en u7)]) := by rw [← eu2, ← eu3, ← eu4, ← eu5, ← eu6, ← eu7]; exact hD
      exact W.zret (ty := .boolean) hx hb hr (by decide) (fun t ht hW => ⟨⟨_, (), rfl, e9, by rw [ht]; exact hP, va_K.moved hW.alike hK, hD⟩, hS.F ht⟩) hS.2.2 dL_rides_286
  have hB170 : ∀ (n170 : Nat), ∀ (S2_170h : T1) (S3_170h : T1) (S4_170h : T1) (S5_170h : T1) (S6_170h : T1) (S7_170h : T5) (v9_170 : Int32) (v10_170 : Int32) (v11_170 : Int32) (v12_170 : Int32) (v13_170 : Int32) (H : Heap) (locs : List Loc) (ls : Array Slot), fL_rides_170 S1 p7 p8 n170 S2_170h S3_170h S4_170h S5_170h S6_170h S7_170h v9_170 v10_170 v11_170 v12_170 v13_170 = some (r, u2, u3, u4, u5, u6, u7) → va_P (dC, dI) vwCl (fl [[(b1, .inl (cs 0, 8, .inl S1))], [(b2, .inl (cs 0, 24, .inl S2_170h))], [(b3, .inl (cs 0, 48, .inl S3_170h))], [(b4, .inl (cs 0, 48, .inl S4_170h))], [(b5, .inl (cs 0, 40, .inl S5_170h))], [(b6, .inl (cs 0, 32, .inl S6_170h))], (w_X10 ad (0) cs en S7_170h)]) H → va_D A (fl [[(b1, .inl (cs 0, 8, .inl S1))], [(b2, .inl (cs 0, 24, .inl S2_170h))], [(b3, .inl (cs 0, 48, .inl S3_170h))], [(b4, .inl (cs 0, 48, .inl S4_170h))], [(b5, .inl (cs 0, 40, .inl S5_170h))], [(b6, .inl (cs 0, 32, .inl S6_170h))], (w_X10 ad (0) cs en S7_170h)]) → va_S A s.heap H locs → lv_has ls 15 [(0, .ref (ad 0)), (1, .ref b1), (2, .ref b2), (3, .ref b3), (4, .ref b4), (5, .ref b5), (6, .ref b6), (9, .int v9_170), (10, .int v10_170), (11, .int v11_170), (12, .int v12_170), (13, .int v13_170)] → W p l e (headSpec wsL_rides ({ frames := 6, cells := 0, slots := 0, locals := 137 } : Room)).room s m ([.ref (ad 0), .ref b1, .ref b2, .ref b3, .ref b4, .ref b5, .ref b6, .int p7, .int p8] : List Value).toArray below meth c H locs 0 0 (MQ below (QI dC dI (tyL cs) A (fl [[(b1, .inl (cs 0, 8, .inl S1))], [(b2, .inl (cs 0, 24, .inl u2))], [(b3, .inl (cs 0, 48, .inl u3))], [(b4, .inl (cs 0, 48, .inl u4))], [(b5, .inl (cs 0, 40, .inl u5))], [(b6, .inl (cs 0, 32, .inl u6))], (w_X10 ad (0) cs en u7)]) r) ([.ref (ad 0), .ref b1, .ref b2, .ref b3, .ref b4, .ref b5, .ref b6, .int p7, .int p8] : List Value).toArray s 0 0 A) (F0 m 170 ls []) := by
    intro n170
    induction n170 with
    | zero =>
      intro S2_170h S3_170h S4_170h S5_170h S6_170h S7_170h v9_170 v10_170 v11_170 v12_170 v13_170 H locs ls hR hP hD hS hl
      exact nn_e hR
    | succ n170 hI170 =>
      have hB250 : ∀ (S2_250h : T1) (S3_250h : T1) (S4_250h : T1) (S5_250h : T1) (S6_250h : T1) (S7_250h : T5) (v9_250 : Int32) (v10_250 : Int32) (v11_250 : Int32) (v13_250 : Int32) (t0_250 : Int32) (H : Heap) (locs : List Loc) (ls : Array Slot), fL_rides_250 (fL_rides_170 S1 p7 p8 n170) S1 p7 p8 S2_250h S3_250h S4_250h S5_250h S6_250h S7_250h v9_250 v10_250 v11_250 v13_250 t0_250 = some (r, u2, u3, u4, u5, u6, u7) → va_P (dC, dI) vwCl (fl [[(b1, .inl (cs 0, 8, .inl S1))], [(b2, .inl (cs 0, 24, .inl S2_250h))], [(b3, .inl (cs 0, 48, .inl S3_250h))], [(b4, .inl (cs 0, 48, .inl S4_250h))], [(b5, .inl (cs 0, 40, .inl S5_250h))], [(b6, .inl (cs 0, 32, .inl S6_250h))], (w_X10 ad (0) cs en S7_250h)]) H → va_D A (fl [[(b1, .inl (cs 0, 8, .inl S1))], [(b2, .inl (cs 0, 24, .inl S2_250h))], [(b3, .inl (cs 0, 48, .inl S3_250h))], [(b4, .inl (cs 0, 48, .inl S4_250h))], [(b5, .inl (cs 0, 40, .inl S5_250h))], [(b6, .inl (cs 0, 32, .inl S6_250h))], (w_X10 ad (0) cs en S7_250h)]) → va_S A s.heap H locs → lv_has ls 15 [(0, .ref (ad 0)), (1, .ref b1), (2, .ref b2), (3, .ref b3), (4, .ref b4), (5, .ref b5), (6, .ref b6), (9, .int v9_250), (10, .int v10_250), (11, .int v11_250), (13, .int v13_250)] → W p l e (headSpec wsL_rides ({ frames := 6, cells := 0, slots := 0, locals := 137 } : Room)).room s m ([.ref (ad 0), .ref b1, .ref b2, .ref b3, .ref b4, .ref b5, .ref b6, .int p7, .int p8] : List Value).toArray below meth c H locs 0 0 (MQ below (QI dC dI (tyL cs) A (fl [[(b1, .inl (cs 0, 8, .inl S1))], [(b2, .inl (cs 0, 24, .inl u2))], [(b3, .inl (cs 0, 48, .inl u3))], [(b4, .inl (cs 0, 48, .inl u4))], [(b5, .inl (cs 0, 40, .inl u5))], [(b6, .inl (cs 0, 32, .inl u6))], (w_X10 ad (0) cs en u7)]) r) ([.ref (ad 0), .ref b1, .ref b2, .ref b3, .ref b4, .ref b5, .ref b6, .int p7, .int p8] : List Value).toArray s 0 0 A) (F0 m 250 ls [.int t0_250]) := by
        intro S2_250h S3_250h S4_250h S5_250h S6_250h S7_250h v9_250 v10_250 v11_250 v13_250 t0_250 H locs ls hR hP hD hS hl
        refine lv_istore (lv' := [(12, .int t0_250), (0, .ref (ad 0)), (1, .ref b1), (2, .ref b2), (3, .ref b3), (4, .ref b4), (5, .ref b5), (6, .ref b6), (9, .int v9_250), (10, .int v10_250), (11, .int v11_250), (13, .int v13_250)]) hx hb dL_rides_250 hl (Nat.le_of_ble_eq_true rfl) rfl (fun ls hl => ?_)
        refine lv_iinc (v := (v13_250 + (-1))) (lv' := [(13, .int (v13_250 + (-1))), (12, .int t0_250), (0, .ref (ad 0)), (1, .ref b1), (2, .ref b2), (3, .ref b3), (4, .ref b4), (5, .ref b5), (6, .ref b6), (9, .int v9_250), (10, .int v10_250), (11, .int v11_250)]) hx hb dL_rides_252 hl (k := 11) rfl rfl (Nat.le_of_ble_eq_true rfl) rfl (fun ls hl => ?_)
        refine lv_goto (tgt := 170) hx hb dL_rides_255 (by decide) ?_
        exact hI170 S2_250h S3_250h S4_250h S5_250h S6_250h S7_250h v9_250 v10_250 v11_250 t0_250 (v13_250 + (-1)) H _ ls hR hP hD hS (lv_sub hl [2, 3, 4, 5, 6, 7, 8, 9, 10, 11, 1, 0] rfl)
      have hB248 : ∀ (S2_248h : T1) (S3_248h : T1) (S4_248h : T1) (S5_248h : T1) (S6_248h : T1) (S7_248h : T5) (v9_248 : Int32) (v10_248 : Int32) (v11_248 : Int32) (v12_248 : Int32) (v13_248 : Int32) (H : Heap) (locs : List Loc) (ls : Array Slot), fL_rides_248 (fL_rides_170 S1 p7 p8 n170) S1 p7 p8 S2_248h S3_248h S4_248h S5_248h S6_248h S7_248h v9_248 v10_248 v11_248 v12_248 v13_248 = some (r, u2, u3, u4, u5, u6, u7) → va_P (dC, dI) vwCl (fl [[(b1, .inl (cs 0, 8, .inl S1))], [(b2, .inl (cs 0, 24, .inl S2_248h))], [(b3, .inl (cs 0, 48, .inl S3_248h))], [(b4, .inl (cs 0, 48, .inl S4_248h))], [(b5, .inl (cs 0, 40, .inl S5_248h))], [(b6, .inl (cs 0, 32, .inl S6_248h))], (w_X10 ad (0) cs en S7_248h)]) H → va_D A (fl [[(b1, .inl (cs 0, 8, .inl S1))], [(b2, .inl (cs 0, 24, .inl S2_248h))], [(b3, .inl (cs 0, 48, .inl S3_248h))], [(b4, .inl (cs 0, 48, .inl S4_248h))], [(b5, .inl (cs 0, 40, .inl S5_248h))], [(b6, .inl (cs 0, 32, .inl S6_248h))], (w_X10 ad (0) cs en S7_248h)]) → va_S A s.heap H locs → lv_has ls 15 [(0, .ref (ad 0)), (1, .ref b1), (2, .ref b2), (3, .ref b3), (4, .ref b4), (5, .ref b5), (6, .ref b6), (9, .int v9_248), (10, .int v10_248), (11, .int v11_248), (12, .int v12_248), (13, .int v13_248)] → W p l e (headSpec wsL_rides ({ frames := 6, cells := 0, slots := 0, locals := 137 } : Room)).room s m ([.ref (ad 0), .ref b1, .ref b2, .ref b3, .ref b4, .ref b5, .ref b6, .int p7, .int p8] : List Value).toArray below meth c H locs 0 0 (MQ below (QI dC dI (tyL cs) A (fl [[(b1, .inl (cs 0, 8, .inl S1))], [(b2, .inl (cs 0, 24, .inl u2))], [(b3, .inl (cs 0, 48, .inl u3))], [(b4, .inl (cs 0, 48, .inl u4))], [(b5, .inl (cs 0, 40, .inl u5))], [(b6, .inl (cs 0, 32, .inl u6))], (w_X10 ad (0) cs en u7)]) r) ([.ref (ad 0), .ref b1, .ref b2, .ref b3, .ref b4, .ref b5, .ref b6, .int p7, .int p8] : List Value).toArray s 0 0 A) (F0 m 248 ls []) := by
        intro S2_248h S3_248h S4_248h S5_248h S6_248h S7_248h v9_248 v10_248 v11_248 v12_248 v13_248 H locs ls hR hP hD hS hl
        refine lv_iload hx hb dL_rides_248 (lv_at hl 10 rfl) ?_
        exact hB250 S2_248h S3_248h S4_248h S5_248h S6_248h S7_248h v9_248 v10_248 v11_248 v13_248 v12_248 H _ ls hR hP hD hS (lv_sub hl [0, 1, 2, 3, 4, 5, 6, 7, 8, 9, 11] rfl)
      have hB243 : ∀ (S2_243h : T1) (S3_243h : T1) (S4_243h : T1) (S5_243h : T1) (S6_243h : T1) (S7_243h : T5) (v9_243 : Int32) (v10_243 : Int32) (v11_243 : Int32) (v13_243 : Int32) (H : Heap) (locs : List Loc) (ls : Array Slot), fL_rides_243 (fL_rides_170 S1 p7 p8 n170) S1 p7 p8 S2_243h S3_243h S4_243h S5_243h S6_243h S7_243h v9_243 v10_243 v11_243 v13_243 = some (r, u2, u3, u4, u5, u6, u7) → va_P (dC, dI) vwCl (fl [[(b1, .inl (cs 0, 8, .inl S1))], [(b2, .inl (cs 0, 24, .inl S2_243h))], [(b3, .inl (cs 0, 48, .inl S3_243h))], [(b4, .inl (cs 0, 48, .inl S4_243h))], [(b5, .inl (cs 0, 40, .inl S5_243h))], [(b6, .inl (cs 0, 32, .inl S6_243h))], (w_X10 ad (0) cs en S7_243h)]) H → va_D A (fl [[(b1, .inl (cs 0, 8, .inl S1))], [(b2, .inl (cs 0, 24, .inl S2_243h))], [(b3, .inl (cs 0, 48, .inl S3_243h))], [(b4, .inl (cs 0, 48, .inl S4_243h))], [(b5, .inl (cs 0, 40, .inl S5_243h))], [(b6, .inl (cs 0, 32, .inl S6_243h))], (w_X10 ad (0) cs en S7_243h)]) → va_S A s.heap H locs → lv_has ls 15 [(0, .ref (ad 0)), (1, .ref b1), (2, .ref b2), (3, .ref b3), (4, .ref b4), (5, .ref b5), (6, .ref b6), (9, .int v9_243), (10, .int v10_243), (11, .int v11_243), (13, .int v13_243)] → W p l e (headSpec wsL_rides ({ frames := 6, cells := 0, slots := 0, locals := 137 } : Room)).room s m ([.ref (ad 0), .ref b1, .ref b2, .ref b3, .ref b4, .ref b5, .ref b6, .int p7, .int p8] : List Value).toArray below meth c H locs 0 0 (MQ below (QI dC dI (tyL cs) A (fl [[(b1, .inl (cs 0, 8, .inl S1))], [(b2, .inl (cs 0, 24, .inl u2))], [(b3, .inl (cs 0, 48, .inl u3))], [(b4, .inl (cs 0, 48, .inl u4))], [(b5, .inl (cs 0, 40, .inl u5))], [(b6, .inl (cs 0, 32, .inl u6))], (w_X10 ad (0) cs en u7)]) r) ([.ref (ad 0), .ref b1, .ref b2, .ref b3, .ref b4, .ref b5, .ref b6, .int p7, .int p8] : List Value).toArray s 0 0 A) (F0 m 243 ls []) := by
        intro S2_243h S3_243h S4_243h S5_243h S6_243h S7_243h v9_243 v10_243 v11_243 v13_243 H locs ls hR hP hD hS hl
        refine lv_iload hx hb dL_rides_243 (lv_at hl 10 rfl) ?_
        refine lv_goto (tgt := 250) hx hb dL_rides_245 (by decide) ?_
        exact hB250 S2_243h S3_243h S4_243h S5_243h S6_243h S7_243h v9_243 v10_243 v11_243 v13_243 v13_243 H _ ls hR hP hD hS (lv_sub hl [0, 1, 2, 3, 4, 5, 6, 7, 8, 9, 10] rfl)
      have hB212 : ∀ (S2_212h : T1) (S3_212h : T1) (S4_212h : T1) (S5_212h : T1) (S6_212h : T1) (S7_212h : T5) (v9_212 : Int32) (v10_212 : Int32) (v11_212 : Int32) (v12_212 : Int32) (v13_212 : Int32) (t0_212 : Int32) (H : Heap) (locs : List Loc) (ls : Array Slot), fL_rides_212 (fL_rides_170 S1 p7 p8 n170) S1 p7 p8 S2_212h S3_212h S4_212h S5_212h S6_212h S7_212h v9_212 v10_212 v11_212 v12_212 v13_212 t0_212 = some (r, u2, u3, u4, u5, u6, u7) → va_P (dC, dI) vwCl (fl [[(b1, .inl (cs 0, 8, .inl S1))], [(b2, .inl (cs 0, 24, .inl S2_212h))], [(b3, .inl (cs 0, 48, .inl S3_212h))], [(b4, .inl (cs 0, 48, .inl S4_212h))], [(b5, .inl (cs 0, 40, .inl S5_212h))], [(b6, .inl (cs 0, 32, .inl S6_212h))], (w_X10 ad (0) cs en S7_212h)]) H → va_D A (fl [[(b1, .inl (cs 0, 8, .inl S1))], [(b2, .inl (cs 0, 24, .inl S2_212h))], [(b3, .inl (cs 0, 48, .inl S3_212h))], [(b4, .inl (cs 0, 48, .inl S4_212h))], [(b5, .inl (cs 0, 40, .inl S5_212h))], [(b6, .inl (cs 0, 32, .inl S6_212h))], (w_X10 ad (0) cs en S7_212h)]) → va_S A s.heap H locs → lv_has ls 15 [(0, .ref (ad 0)), (1, .ref b1), (2, .ref b2), (3, .ref b3), (4, .ref b4), (5, .ref b5), (6, .ref b6), (9, .int v9_212), (10, .int v10_212), (11, .int v11_212), (12, .int v12_212), (13, .int v13_212)] → W p l e (headSpec wsL_rides ({ frames := 6, cells := 0, slots := 0, locals := 137 } : Room)).room s m ([.ref (ad 0), .ref b1, .ref b2, .ref b3, .ref b4, .ref b5, .ref b6, .int p7, .int p8] : List Value).toArray below meth c H locs 0 0 (MQ below (QI dC dI (tyL cs) A (fl [[(b1, .inl (cs 0, 8, .inl S1))], [(b2, .inl (cs 0, 24, .inl u2))], [(b3, .inl (cs 0, 48, .inl u3))], [(b4, .inl (cs 0, 48, .inl u4))], [(b5, .inl (cs 0, 40, .inl u5))], [(b6, .inl (cs 0, 32, .inl u6))], (w_X10 ad (0) cs en u7)]) r) ([.ref (ad 0), .ref b1, .ref b2, .ref b3, .ref b4, .ref b5, .ref b6, .int p7, .int p8] : List Value).toArray s 0 0 A) (F0 m 212 ls [.int t0_212]) := by
        intro S2_212h S3_212h S4_212h S5_212h S6_212h S7_212h v9_212 v10_212 v11_212 v12_212 v13_212 t0_212 H locs ls hR hP hD hS hl
        refine lv_istore (lv' := [(14, .int t0_212), (0, .ref (ad 0)), (1, .ref b1), (2, .ref b2), (3, .ref b3), (4, .ref b4), (5, .ref b5), (6, .ref b6), (9, .int v9_212), (10, .int v10_212), (11, .int v11_212), (12, .int v12_212), (13, .int v13_212)]) hx hb dL_rides_212 hl (Nat.le_of_ble_eq_true rfl) rfl (fun ls hl => ?_)
        refine lv_iload hx hb dL_rides_214 (lv_at hl 0 rfl) ?_
        refine lv_if_eq (tgt := 248) hx hb dL_rides_216 (by decide) (fun c216 => ?_) (fun c216 => ?_)
        · replace hR := it_t hR c216
          exact hB248 S2_212h S3_212h S4_212h S5_212h S6_212h S7_212h v9_212 v10_212 v11_212 v12_212 v13_212 H _ ls hR hP hD hS (lv_sub hl [1, 2, 3, 4, 5, 6, 7, 8, 9, 10, 11, 12] rfl)
        · replace hR := it_f hR c216
          refine lv_iload hx hb dL_rides_219 (lv_at hl 11 rfl) ?_
          refine lv_if_lt (tgt := 243) hx hb dL_rides_221 (by decide) (fun c221 => ?_) (fun c221 => ?_)
          · replace hR := it_t hR c221
            exact hB243 S2_212h S3_212h S4_212h S5_212h S6_212h S7_212h v9_212 v10_212 v11_212 v13_212 H _ ls hR hP hD hS (lv_sub hl [1, 2, 3, 4, 5, 6, 7, 8, 9, 10, 12] rfl)
          · replace hR := it_f hR c221
            refine lv_aload_n hx hb dL_rides_224 rfl (lv_at hl 4 rfl) ?_
            refine lv_iconst (v := 3) hx hb dL_rides_225 ic_3 ?_
            refine lv_iload hx hb dL_rides_226 (lv_at hl 12 rfl) ?_
            refine lv_imul hx hb dL_rides_228 ?_
            refine lv_iconst (v := 2) hx hb dL_rides_229 ic_2 ?_
            refine lv_iadd hx hb dL_rides_230 ?_
            replace hR := gi_e hR
            obtain ⟨i231, hR⟩ := hR
            refine va_iald hx hb hK hP 2 0 rfl rfl i231 dL_rides_231 ?_
            refine lv_aload_n hx hb dL_rides_232 rfl (lv_at hl 4 rfl) ?_
            refine lv_iconst (v := 3) hx hb dL_rides_233 ic_3 ?_
            refine lv_iload hx hb dL_rides_234 (lv_at hl 11 rfl) ?_
            refine lv_imul hx hb dL_rides_236 ?_
            refine lv_iconst (v := 2) hx hb dL_rides_237 ic_2 ?_
            refine lv_iadd hx hb dL_rides_238 ?_
            replace hR := gi_e hR
            obtain ⟨i239, hR⟩ := hR
            refine va_iald hx hb hK hP 2 0 rfl rfl i239 dL_rides_239 ?_
            refine lv_icmp_gt (tgt := 248) hx hb dL_rides_240 (by decide) (fun c240 => ?_) (fun c240 => ?_)
            · replace hR := it_t hR c240
              exact hB248 S2_212h S3_212h S4_212h S5_212h S6_212h S7_212h v9_212 v10_212 v11_212 v12_212 v13_212 H _ ls hR hP hD hS (lv_sub hl [1, 2, 3, 4, 5, 6, 7, 8, 9, 10, 11, 12] rfl)
            · replace hR := it_f hR c240
              exact hB243 S2_212h S3_212h S4_212h S5_212h S6_212h S7_212h v9_212 v10_212 v11_212 v13_212 H _ ls hR hP hD hS (lv_sub hl [1, 2, 3, 4, 5, 6, 7, 8, 9, 10, 12] rfl)
      have hB211 : ∀ (S2_211h : T1) (S3_211h : T1) (S4_211h : T1) (S5_211h : T1) (S6_211h : T1) (S7_211h : T5) (v9_211 : Int32) (v10_211 : Int32) (v11_211 : Int32) (v12_211 : Int32) (v13_211 : Int32) (H : Heap) (locs : List Loc) (ls : Array Slot), fL_rides_211 (fL_rides_170 S1 p7 p8 n170) S1 p7 p8 S2_211h S3_211h S4_211h S5_211h S6_211h S7_211h v9_211 v10_211 v11_211 v12_211 v13_211 = some (r, u2, u3, u4, u5, u6, u7) → va_P (dC, dI) vwCl (fl [[(b1, .inl (cs 0, 8, .inl S1))], [(b2, .inl (cs 0, 24, .inl S2_211h))], [(b3, .inl (cs 0, 48, .inl S3_211h))], [(b4, .inl (cs 0, 48, .inl S4_211h))], [(b5, .inl (cs 0, 40, .inl S5_211h))], [(b6, .inl (cs 0, 32, .inl S6_211h))], (w_X10 ad (0) cs en S7_211h)]) H → va_D A (fl [[(b1, .inl (cs 0, 8, .inl S1))], [(b2, .inl (cs 0, 24, .inl S2_211h))], [(b3, .inl (cs 0, 48, .inl S3_211h))], [(b4, .inl (cs 0, 48, .inl S4_211h))], [(b5, .inl (cs 0, 40, .inl S5_211h))], [(b6, .inl (cs 0, 32, .inl S6_211h))], (w_X10 ad (0) cs en S7_211h)]) → va_S A s.heap H locs → lv_has ls 15 [(0, .ref (ad 0)), (1, .ref b1), (2, .ref b2), (3, .ref b3), (4, .ref b4), (5, .ref b5), (6, .ref b6), (9, .int v9_211), (10, .int v10_211), (11, .int v11_211), (12, .int v12_211), (13, .int v13_211)] → W p l e (headSpec wsL_rides ({ frames := 6, cells := 0, slots := 0, locals := 137 } : Room)).room s m ([.ref (ad 0), .ref b1, .ref b2, .ref b3, .ref b4, .ref b5, .ref b6, .int p7, .int p8] : List Value).toArray below meth c H locs 0 0 (MQ below (QI dC dI (tyL cs) A (fl [[(b1, .inl (cs 0, 8, .inl S1))], [(b2, .inl (cs 0, 24, .inl u2))], [(b3, .inl (cs 0, 48, .inl u3))], [(b4, .inl (cs 0, 48, .inl u4))], [(b5, .inl (cs 0, 40, .inl u5))], [(b6, .inl (cs 0, 32, .inl u6))], (w_X10 ad (0) cs en u7)]) r) ([.ref (ad 0), .ref b1, .ref b2, .ref b3, .ref b4, .ref b5, .ref b6, .int p7, .int p8] : List Value).toArray s 0 0 A) (F0 m 211 ls []) := by
        intro S2_211h S3_211h S4_211h S5_211h S6_211h S7_211h v9_211 v10_211 v11_211 v12_211 v13_211 H locs ls hR hP hD hS hl
        refine lv_iconst (v := 0) hx hb dL_rides_211 ic_0 ?_
        exact hB212 S2_211h S3_211h S4_211h S5_211h S6_211h S7_211h v9_211 v10_211 v11_211 v12_211 v13_211 (0 : Int32) H _ ls hR hP hD hS (lv_sub hl [0, 1, 2, 3, 4, 5, 6, 7, 8, 9, 10, 11] rfl)
      intro S2_170h S3_170h S4_170h S5_170h S6_170h S7_170h v9_170 v10_170 v11_170 v12_170 v13_170 H locs ls hR hP hD hS hl
      rw [fL_rides_170] at hR
      refine lv_iload hx hb dL_rides_170 (lv_at hl 11 rfl) ?_
      refine lv_if_lt (tgt := 258) hx hb dL_rides_172 (by decide) (fun c172 => ?_) (fun c172 => ?_)
      · replace hR := it_t hR c172
        refine lv_iload hx hb dL_rides_258 (lv_at hl 9 rfl) ?_
        refine lv_if_ge (tgt := 268) hx hb dL_rides_260 (by decide) (fun c260 => ?_) (fun c260 => ?_)
        · replace hR := it_t hR c260
          exact hB268 S2_170h S3_170h S4_170h S5_170h S6_170h S7_170h v9_170 v10_170 H _ ls hR hP hD hS (lv_sub hl [0, 7, 8] rfl)
        · replace hR := it_f hR c260
          refine lv_iload hx hb dL_rides_263 (lv_at hl 10 rfl) ?_
          refine lv_if_ge (tgt := 287) hx hb dL_rides_265 (by decide) (fun c265 => ?_) (fun c265 => ?_)
          · replace hR := it_t hR c265
            refine lv_aload_n hx hb dL_rides_287 rfl (lv_at hl 3 rfl) ?_
            refine lv_iconst (v := 3) hx hb dL_rides_288 ic_3 ?_
            refine lv_iload hx hb dL_rides_289 (lv_at hl 10 rfl) ?_
            refine lv_imul hx hb dL_rides_291 ?_
            refine lv_iconst (v := 1) hx hb dL_rides_292 ic_1 ?_
            replace hR := gi_e hR
            obtain ⟨i293, hR⟩ := hR
            refine va_iast hx hb hK hP hD hS 2 0 rfl rfl i293 dL_rides_293 (fun H293 locs293 hP' hD' hS' => ?_)
            replace hS := hS'
            have hP' : va_P (dC, dI) vwCl (fl [[(b1, .inl (cs 0, 8, .inl S1))], [(b2, .inl (cs 0, 24, .inl S2_170h))], [(b3, .inl (cs 0, 48, .inl (sU S3_170h ((3 : Int32) * v12_170).toNatClampNeg (1 : Int32))))], [(b4, .inl (cs 0, 48, .inl S4_170h))], [(b5, .inl (cs 0, 40, .inl S5_170h))], [(b6, .inl (cs 0, 32, .inl S6_170h))], (w_X10 ad (0) cs en S7_170h)]) H293 := hP'
            have hD' : va_D A (fl [[(b1, .inl (cs 0, 8, .inl S1))], [(b2, .inl (cs 0, 24, .inl S2_170h))], [(b3, .inl (cs 0, 48, .inl (sU S3_170h ((3 : Int32) * v12_170).toNatClampNeg (1 : Int32))))], [(b4, .inl (cs 0, 48, .inl S4_170h))], [(b5, .inl (cs 0, 40, .inl S5_170h))], [(b6, .inl (cs 0, 32, .inl S6_170h))], (w_X10 ad (0) cs en S7_170h)]) := hD'
            replace hR := bn_e hR
            obtain ⟨S3_293, eS3_293, hR⟩ := hR
            replace hP : va_P (dC, dI) vwCl (fl [[(b1, .inl (cs 0, 8, .inl S1))], [(b2, .inl (cs 0, 24, .inl S2_170h))], [(b3, .inl (cs 0, 48, .inl S3_293))], [(b4, .inl (cs 0, 48, .inl S4_170h))], [(b5, .inl (cs 0, 40, .inl S5_170h))], [(b6, .inl (cs 0, 32, .inl S6_170h))], (w_X10 ad (0) cs en S7_170h)]) H293 := by rw [eS3_293]; exact hP'
            replace hD : va_D A (fl [[(b1, .inl (cs 0, 8, .inl S1))], [(b2, .inl (cs 0, 24, .inl S2_170h))], [(b3, .inl (cs 0, 48, .inl S3_293))], [(b4, .inl (cs 0, 48, .inl S4_170h))], [(b5, .inl (cs 0, 40, .inl S5_170h))], [(b6, .inl (cs 0, 32, .inl S6_170h))], (w_X10 ad (0) cs en S7_170h)]) := by rw [eS3_293]; exact hD'
            clear hP' hD' hS'
            refine lv_aload_n hx hb dL_rides_294 rfl (lv_at hl 3 rfl) ?_
            refine lv_iconst (v := 3) hx hb dL_rides_295 ic_3 ?_
            refine lv_iload hx hb dL_rides_296 (lv_at hl 10 rfl) ?_
            refine lv_imul hx hb dL_rides_298 ?_
            refine lv_iconst (v := 1) hx hb dL_rides_299 ic_1 ?_
            refine lv_iadd hx hb dL_rides_300 ?_
            refine lv_iload hx hb dL_rides_301 (lv_at hl 7 rfl) ?_
            replace hR := gi_e hR
            obtain ⟨i303, hR⟩ := hR
            refine va_iast hx hb hK hP hD hS 2 0 rfl rfl i303 dL_rides_303 (fun H303 locs303 hP' hD' hS' => ?_)
            replace hS := hS'
            have hP' : va_P (dC, dI) vwCl (fl [[(b1, .inl (cs 0, 8, .inl S1))], [(b2, .inl (cs 0, 24, .inl S2_170h))], [(b3, .inl (cs 0, 48, .inl (sU S3_293 (((3 : Int32) * v12_170) + 1).toNatClampNeg v9_170)))], [(b4, .inl (cs 0, 48, .inl S4_170h))], [(b5, .inl (cs 0, 40, .inl S5_170h))], [(b6, .inl (cs 0, 32, .inl S6_170h))], (w_X10 ad (0) cs en S7_170h)]) H303 := hP'
            have hD' : va_D A (fl [[(b1, .inl (cs 0, 8, .inl S1))], [(b2, .inl (cs 0, 24, .inl S2_170h))], [(b3, .inl (cs 0, 48, .inl (sU S3_293 (((3 : Int32) * v12_170) + 1).toNatClampNeg v9_170)))], [(b4, .inl (cs 0, 48, .inl S4_170h))], [(b5, .inl (cs 0, 40, .inl S5_170h))], [(b6, .inl (cs 0, 32, .inl S6_170h))], (w_X10 ad (0) cs en S7_170h)]) := hD'
            replace hR := bn_e hR
            obtain ⟨S3_303, eS3_303, hR⟩ := hR
            replace hP : va_P (dC, dI) vwCl (fl [[(b1, .inl (cs 0, 8, .inl S1))], [(b2, .inl (cs 0, 24, .inl S2_170h))], [(b3, .inl (cs 0, 48, .inl S3_303))], [(b4, .inl (cs 0, 48, .inl S4_170h))], [(b5, .inl (cs 0, 40, .inl S5_170h))], [(b6, .inl (cs 0, 32, .inl S6_170h))], (w_X10 ad (0) cs en S7_170h)]) H303 := by rw [eS3_303]; exact hP'
            replace hD : va_D A (fl [[(b1, .inl (cs 0, 8, .inl S1))], [(b2, .inl (cs 0, 24, .inl S2_170h))], [(b3, .inl (cs 0, 48, .inl S3_303))], [(b4, .inl (cs 0, 48, .inl S4_170h))], [(b5, .inl (cs 0, 40, .inl S5_170h))], [(b6, .inl (cs 0, 32, .inl S6_170h))], (w_X10 ad (0) cs en S7_170h)]) := by rw [eS3_303]; exact hD'
            clear hP' hD' hS'
            refine lv_aload hx hb dL_rides_304 (lv_at hl 5 rfl) ?_
            refine lv_iconst (v := 5) hx hb dL_rides_306 ic_5 ?_
            refine lv_iload hx hb dL_rides_307 (lv_at hl 7 rfl) ?_
            refine lv_imul hx hb dL_rides_309 ?_
            refine lv_iconst (v := 2) hx hb dL_rides_310 ic_2 ?_
            refine lv_iadd hx hb dL_rides_311 ?_
            refine lv_iload hx hb dL_rides_312 (lv_at hl 10 rfl) ?_
            replace hR := gi_e hR
            obtain ⟨i314, hR⟩ := hR
            refine va_iast hx hb hK hP hD hS 4 0 rfl rfl i314 dL_rides_314 (fun H314 locs314 hP' hD' hS' => ?_)
            replace hS := hS'
            have hP' : va_P (dC, dI) vwCl (fl [[(b1, .inl (cs 0, 8, .inl S1))], [(b2, .inl (cs 0, 24, .inl S2_170h))], [(b3, .inl (cs 0, 48, .inl S3_303))], [(b4, .inl (cs 0, 48, .inl S4_170h))], [(b5, .inl (cs 0, 40, .inl (sU S5_170h (((5 : Int32) * v9_170) + 2).toNatClampNeg v12_170)))], [(b6, .inl (cs 0, 32, .inl S6_170h))], (w_X10 ad (0) cs en S7_170h)]) H314 := hP'
            have hD' : va_D A (fl [[(b1, .inl (cs 0, 8, .inl S1))], [(b2, .inl (cs 0, 24, .inl S2_170h))], [(b3, .inl (cs 0, 48, .inl S3_303))], [(b4, .inl (cs 0, 48, .inl S4_170h))], [(b5, .inl (cs 0, 40, .inl (sU S5_170h (((5 : Int32) * v9_170) + 2).toNatClampNeg v12_170)))], [(b6, .inl (cs 0, 32, .inl S6_170h))], (w_X10 ad (0) cs en S7_170h)]) := hD'
            replace hR := bn_e hR
            obtain ⟨S5_314, eS5_314, hR⟩ := hR
            replace hP : va_P (dC, dI) vwCl (fl [[(b1, .inl (cs 0, 8, .inl S1))], [(b2, .inl (cs 0, 24, .inl S2_170h))], [(b3, .inl (cs 0, 48, .inl S3_303))], [(b4, .inl (cs 0, 48, .inl S4_170h))], [(b5, .inl (cs 0, 40, .inl S5_314))], [(b6, .inl (cs 0, 32, .inl S6_170h))], (w_X10 ad (0) cs en S7_170h)]) H314 := by rw [eS5_314]; exact hP'
            replace hD : va_D A (fl [[(b1, .inl (cs 0, 8, .inl S1))], [(b2, .inl (cs 0, 24, .inl S2_170h))], [(b3, .inl (cs 0, 48, .inl S3_303))], [(b4, .inl (cs 0, 48, .inl S4_170h))], [(b5, .inl (cs 0, 40, .inl S5_314))], [(b6, .inl (cs 0, 32, .inl S6_170h))], (w_X10 ad (0) cs en S7_170h)]) := by rw [eS5_314]; exact hD'
            clear hP' hD' hS'
            refine lv_aload hx hb dL_rides_315 (lv_at hl 5 rfl) ?_
            refine lv_iconst (v := 5) hx hb dL_rides_317 ic_5 ?_
            refine lv_iload hx hb dL_rides_318 (lv_at hl 7 rfl) ?_
            refine lv_imul hx hb dL_rides_320 ?_
            refine lv_iconst (v := 3) hx hb dL_rides_321 ic_3 ?_
            refine lv_iadd hx hb dL_rides_322 ?_
            refine lv_aload_n hx hb dL_rides_323 rfl (lv_at hl 1 rfl) ?_
            refine lv_iconst (v := 4) hx hb dL_rides_324 ic_4 ?_
            refine va_iald hx hb hK hP 0 0 rfl rfl vi_4_8 dL_rides_325 ?_
            replace hR := gi_e hR
            obtain ⟨i326, hR⟩ := hR
            refine va_iast hx hb hK hP hD hS 4 0 rfl rfl i326 dL_rides_326 (fun H326 locs326 hP' hD' hS' => ?_)
            replace hS := hS'
            have hP' : va_P (dC, dI) vwCl (fl [[(b1, .inl (cs 0, 8, .inl S1))], [(b2, .inl (cs 0, 24, .inl S2_170h))], [(b3, .inl (cs 0, 48, .inl S3_303))], [(b4, .inl (cs 0, 48, .inl S4_170h))], [(b5, .inl (cs 0, 40, .inl (sU S5_314 (((5 : Int32) * v9_170) + 3).toNatClampNeg (S1  (4 : Int32).toNatClampNeg))))], [(b6, .inl (cs 0, 32, .inl S6_170h))], (w_X10 ad (0) cs en S7_170h)]) H326 := hP'
            have hD' : va_D A (fl [[(b1, .inl (cs 0, 8, .inl S1))], [(b2, .inl (cs 0, 24, .inl S2_170h))], [(b3, .inl (cs 0, 48, .inl S3_303))], [(b4, .inl (cs 0, 48, .inl S4_170h))], [(b5, .inl (cs 0, 40, .inl (sU S5_314 (((5 : Int32) * v9_170) + 3).toNatClampNeg (S1  (4 : Int32).toNatClampNeg))))], [(b6, .inl (cs 0, 32, .inl S6_170h))], (w_X10 ad (0) cs en S7_170h)]) := hD'
            replace hR := bn_e hR
            obtain ⟨S5_326, eS5_326, hR⟩ := hR
            replace hP : va_P (dC, dI) vwCl (fl [[(b1, .inl (cs 0, 8, .inl S1))], [(b2, .inl (cs 0, 24, .inl S2_170h))], [(b3, .inl (cs 0, 48, .inl S3_303))], [(b4, .inl (cs 0, 48, .inl S4_170h))], [(b5, .inl (cs 0, 40, .inl S5_326))], [(b6, .inl (cs 0, 32, .inl S6_170h))], (w_X10 ad (0) cs en S7_170h)]) H326 := by rw [eS5_326]; exact hP'
            replace hD : va_D A (fl [[(b1, .inl (cs 0, 8, .inl S1))], [(b2, .inl (cs 0, 24, .inl S2_170h))], [(b3, .inl (cs 0, 48, .inl S3_303))], [(b4, .inl (cs 0, 48, .inl S4_170h))], [(b5, .inl (cs 0, 40, .inl S5_326))], [(b6, .inl (cs 0, 32, .inl S6_170h))], (w_X10 ad (0) cs en S7_170h)]) := by rw [eS5_326]; exact hD'
            clear hP' hD' hS'
            refine lv_aload hx hb dL_rides_327 (lv_at hl 6 rfl) ?_
            refine lv_iconst (v := 4) hx hb dL_rides_329 ic_4 ?_
            refine lv_iload hx hb dL_rides_330 (lv_at hl 7 rfl) ?_
            refine lv_imul hx hb dL_rides_332 ?_
            refine lv_aload hx hb dL_rides_333 (lv_at hl 5 rfl) ?_
            refine lv_iconst (v := 5) hx hb dL_rides_335 ic_5 ?_
            refine lv_iload hx hb dL_rides_336 (lv_at hl 7 rfl) ?_
            refine lv_imul hx hb dL_rides_338 ?_
            refine lv_iconst (v := 1) hx hb dL_rides_339 ic_1 ?_
            refine lv_iadd hx hb dL_rides_340 ?_
            replace hR := gi_e hR
            obtain ⟨i341, hR⟩ := hR
            refine va_iald hx hb hK hP 4 0 rfl rfl i341 dL_rides_341 ?_
            refine lv_aload_n hx hb dL_rides_342 rfl (lv_at hl 1 rfl) ?_
            refine lv_iconst (v := 4) hx hb dL_rides_343 ic_4 ?_
            refine va_iald hx hb hK hP 0 0 rfl rfl vi_4_8 dL_rides_344 ?_
            refine lv_icmp_le (tgt := 352) hx hb dL_rides_345 (by decide) (fun c345 => ?_) (fun c345 => ?_)
            · replace hR := it_t hR c345
              refine lv_iconst (v := 0) hx hb dL_rides_352 ic_0 ?_
              exact hB353 S2_170h S3_303 S4_170h S5_326 S6_170h S7_170h v9_170 v10_170 v12_170 ((4 : Int32) * v9_170) (0 : Int32) H326 _ ls hR hP hD hS (lv_sub hl [0, 1, 2, 5, 6, 7, 8, 10] rfl)
            · replace hR := it_f hR c345
              refine lv_iconst (v := 1) hx hb dL_rides_348 ic_1 ?_
              refine lv_goto (tgt := 353) hx hb dL_rides_349 (by decide) ?_
              exact hB353 S2_170h S3_303 S4_170h S5_326 S6_170h S7_170h v9_170 v10_170 v12_170 ((4 : Int32) * v9_170) (1 : Int32) H326 _ ls hR hP hD hS (lv_sub hl [0, 1, 2, 5, 6, 7, 8, 10] rfl)
          · replace hR := it_f hR c265
            exact hB268 S2_170h S3_170h S4_170h S5_170h S6_170h S7_170h v9_170 v10_170 H _ ls hR hP hD hS (lv_sub hl [0, 7, 8] rfl)
      · replace hR := it_f hR c172
        refine lv_aload_n hx hb dL_rides_175 rfl (lv_at hl 3 rfl) ?_
        refine lv_iconst (v := 3) hx hb dL_rides_176 ic_3 ?_
        refine lv_iload hx hb dL_rides_177 (lv_at hl 11 rfl) ?_
        refine lv_imul hx hb dL_rides_179 ?_
        replace hR := gi_e hR
        obtain ⟨i180, hR⟩ := hR
        refine va_iald hx hb hK hP 2 0 rfl rfl i180 dL_rides_180 ?_
        refine lv_if_ne (tgt := 211) hx hb dL_rides_181 (by decide) (fun c181 => ?_) (fun c181 => ?_)
        · replace hR := it_f hR c181
          exact hB211 S2_170h S3_170h S4_170h S5_170h S6_170h S7_170h v9_170 v10_170 v11_170 v12_170 v13_170 H _ ls hR hP hD hS (lv_sub hl [0, 1, 2, 3, 4, 5, 6, 7, 8, 9, 10, 11] rfl)
        · replace hR := it_t hR c181
          refine lv_aload_n hx hb dL_rides_184 rfl (lv_at hl 3 rfl) ?_
          refine lv_iconst (v := 3) hx hb dL_rides_185 ic_3 ?_
          refine lv_iload hx hb dL_rides_186 (lv_at hl 11 rfl) ?_
          refine lv_imul hx hb dL_rides_188 ?_
          refine lv_iconst (v := 1) hx hb dL_rides_189 ic_1 ?_
          refine lv_iadd hx hb dL_rides_190 ?_
          replace hR := gi_e hR
          obtain ⟨i191, hR⟩ := hR
          refine va_iald hx hb hK hP 2 0 rfl rfl i191 dL_rides_191 ?_
          refine lv_iload hx hb dL_rides_192 (lv_at hl 8 rfl) ?_
          refine lv_icmp_ne (tgt := 211) hx hb dL_rides_194 (by decide) (fun c194 => ?_) (fun c194 => ?_)
          · replace hR := it_f hR c194
            exact hB211 S2_170h S3_170h S4_170h S5_170h S6_170h S7_170h v9_170 v10_170 v11_170 v12_170 v13_170 H _ ls hR hP hD hS (lv_sub hl [0, 1, 2, 3, 4, 5, 6, 7, 8, 9, 10, 11] rfl)
          · replace hR := it_t hR c194
            refine lv_aload hx hb dL_rides_197 (lv_at hl 4 rfl) ?_
            refine lv_iconst (v := 3) hx hb dL_rides_199 ic_3 ?_
            refine lv_iload hx hb dL_rides_200 (lv_at hl 11 rfl) ?_
            refine lv_imul hx hb dL_rides_202 ?_
            replace hR := gi_e hR
            obtain ⟨i203, hR⟩ := hR
            refine va_iald hx hb hK hP 3 0 rfl rfl i203 dL_rides_203 ?_
            refine lv_if_ne (tgt := 211) hx hb dL_rides_204 (by decide) (fun c204 => ?_) (fun c204 => ?_)
            · replace hR := it_f hR c204
              exact hB211 S2_170h S3_170h S4_170h S5_170h S6_170h S7_170h v9_170 v10_170 v11_170 v12_170 v13_170 H _ ls hR hP hD hS (lv_sub hl [0, 1, 2, 3, 4, 5, 6, 7, 8, 9, 10, 11] rfl)
            · replace hR := it_t hR c204
              refine lv_iconst (v := 1) hx hb dL_rides_207 ic_1 ?_
              refine lv_goto (tgt := 212) hx hb dL_rides_208 (by decide) ?_
              exact hB212 S2_170h S3_170h S4_170h S5_170h S6_170h S7_170h v9_170 v10_170 v11_170 v12_170 v13_170 (1 : Int32) H _ ls hR hP hD hS (lv_sub hl [0, 1, 2, 3, 4, 5, 6, 7, 8, 9, 10, 11] rfl)
  have hB65 : ∀ (S2_65h : T1) (S3_65h : T1) (S4_65h : T1) (S5_65h : T1) (S6_65h : T1) (S7_65h : T5) (v9_65 : Int32) (t0_65 : Int32) (H : Heap) (locs : List Loc) (ls : Array Slot), fL_rides_65 S1 p7 p8 S2_65h S3_65h S4_65h S5_65h S6_65h S7_65h v9_65 t0_65 = some (r, u2, u3, u4, u5, u6, u7) → va_P (dC, dI) vwCl (fl [[(b1, .inl (cs 0, 8, .inl S1))], [(b2, .inl (cs 0, 24, .inl S2_65h))], [(b3, .inl (cs 0, 48, .inl S3_65h))], [(b4, .inl (cs 0, 48, .inl S4_65h))], [(b5, .inl (cs 0, 40, .inl S5_65h))], [(b6, .inl (cs 0, 32, .inl S6_65h))], (w_X10 ad (0) cs en S7_65h)]) H → va_D A (fl [[(b1, .inl (cs 0, 8, .inl S1))], [(b2, .inl (cs 0, 24, .inl S2_65h))], [(b3, .inl (cs 0, 48, .inl S3_65h))], [(b4, .inl (cs 0, 48, .inl S4_65h))], [(b5, .inl (cs 0, 40, .inl S5_65h))], [(b6, .inl (cs 0, 32, .inl S6_65h))], (w_X10 ad (0) cs en S7_65h)]) → va_S A s.heap H locs → lv_has ls 15 [(0, .ref (ad 0)), (1, .ref b1), (5, .ref b5), (6, .ref b6), (9, .int v9_65)] → W p l e (headSpec wsL_rides ({ frames := 6, cells := 0, slots := 0, locals := 137 } : Room)).room s m ([.ref (ad 0), .ref b1, .ref b2, .ref b3, .ref b4, .ref b5, .ref b6, .int p7, .int p8] : List Value).toArray below meth c H locs 0 0 (MQ below (QI dC dI (tyL cs) A (fl [[(b1, .inl (cs 0, 8, .inl S1))], [(b2, .inl (cs 0, 24, .inl u2))], [(b3, .inl (cs 0, 48, .inl u3))], [(b4, .inl (cs 0, 48, .inl u4))], [(b5, .inl (cs 0, 40, .inl u5))], [(b6, .inl (cs 0, 32, .inl u6))], (w_X10 ad (0) cs en u7)]) r) ([.ref (ad 0), .ref b1, .ref b2, .ref b3, .ref b4, .ref b5, .ref b6, .int p7, .int p8] : List Value).toArray s 0 0 A) (F0 m 65 ls [.int t0_65]) := by
    intro S2_65h S3_65h S4_65h S5_65h S6_65h S7_65h v9_65 t0_65 H locs ls hR hP hD hS hl
    refine lv_sipush (v := 1000) hx hb dL_rides_65 sp_1000 ?_
    refine lv_iadd hx hb dL_rides_68 ?_
    refine lv_istore (lv' := [(12, .int (t0_65 + 1000)), (0, .ref (ad 0)), (1, .ref b1), (5, .ref b5), (6, .ref b6), (9, .int v9_65)]) hx hb dL_rides_69 hl (Nat.le_of_ble_eq_true rfl) rfl (fun ls hl => ?_)
    refine lv_iload hx hb dL_rides_71 (lv_at hl 0 rfl) ?_
    refine lv_sipush (v := 20000) hx hb dL_rides_73 sp_20000 ?_
    refine lv_icmp_le (tgt := 96) hx hb dL_rides_76 (by decide) (fun c76 => ?_) (fun c76 => ?_)
    · replace hR := it_t hR c76
      refine lv_aload hx hb dL_rides_96 (lv_at hl 3 rfl) ?_
      refine lv_iconst (v := 5) hx hb dL_rides_98 ic_5 ?_
      refine lv_iload hx hb dL_rides_99 (lv_at hl 5 rfl) ?_
      refine lv_imul hx hb dL_rides_101 ?_
      refine lv_dup2_11 hx hb dL_rides_102 rfl rfl ?_
      replace hR := gi_e hR
      obtain ⟨i103, hR⟩ := hR
      refine va_iald hx hb hK hP 4 0 rfl rfl i103 dL_rides_103 ?_
      refine lv_aload_n hx hb dL_rides_104 rfl (lv_at hl 2 rfl) ?_
      refine lv_bipush (v := 7) hx hb dL_rides_105 bp_7 ?_
      refine va_iald hx hb hK hP 0 0 rfl rfl vi_7_8 dL_rides_107 ?_
      refine lv_iadd hx hb dL_rides_108 ?_
      replace hR := gi_e hR
      obtain ⟨i109, hR⟩ := hR
      refine va_iast hx hb hK hP hD hS 4 0 rfl rfl i109 dL_rides_109 (fun H109 locs109 hP' hD' hS' => ?_)
      replace hS := hS'
      have hP' : va_P (dC, dI) vwCl (fl [[(b1, .inl (cs 0, 8, .inl S1))], [(b2, .inl (cs 0, 24, .inl S2_65h))], [(b3, .inl (cs 0, 48, .inl S3_65h))], [(b4, .inl (cs 0, 48, .inl S4_65h))], [(b5, .inl (cs 0, 40, .inl (sU S5_65h ((5 : Int32) * v9_65).toNatClampNeg ((S5_65h  ((5 : Int32) * v9_65).toNatClampNeg) + (S1  (7 : Int32).toNatClampNeg)))))], [(b6, .inl (cs 0, 32, .inl S6_65h))], (w_X10 ad (0) cs en S7_65h)]) H109 := hP'
      have hD' : va_D A (fl [[(b1, .inl (cs 0, 8, .inl S1))], [(b2, .inl (cs 0, 24, .inl S2_65h))], [(b3, .inl (cs 0, 48, .inl S3_65h))], [(b4, .inl (cs 0, 48, .inl S4_65h))], [(b5, .inl (cs 0, 40, .inl (sU S5_65h ((5 : Int32) * v9_65).toNatClampNeg ((S5_65h  ((5 : Int32) * v9_65).toNatClampNeg) + (S1  (7 : Int32).toNatClampNeg)))))], [(b6, .inl (cs 0, 32, .inl S6_65h))], (w_X10 ad (0) cs en S7_65h)]) := hD'
      replace hR := bn_e hR
      obtain ⟨S5_109, eS5_109, hR⟩ := hR
      replace hP : va_P (dC, dI) vwCl (fl [[(b1, .inl (cs 0, 8, .inl S1))], [(b2, .inl (cs 0, 24, .inl S2_65h))], [(b3, .inl (cs 0, 48, .inl S3_65h))], [(b4, .inl (cs 0, 48, .inl S4_65h))], [(b5, .inl (cs 0, 40, .inl S5_109))], [(b6, .inl (cs 0, 32, .inl S6_65h))], (w_X10 ad (0) cs en S7_65h)]) H109 := by rw [eS5_109]; exact hP'
      replace hD : va_D A (fl [[(b1, .inl (cs 0, 8, .inl S1))], [(b2, .inl (cs 0, 24, .inl S2_65h))], [(b3, .inl (cs 0, 48, .inl S3_65h))], [(b4, .inl (cs 0, 48, .inl S4_65h))], [(b5, .inl (cs 0, 40, .inl S5_109))], [(b6, .inl (cs 0, 32, .inl S6_65h))], (w_X10 ad (0) cs en S7_65h)]) := by rw [eS5_109]; exact hD'
      clear hP' hD' hS'
      refine lv_aload hx hb dL_rides_110 (lv_at hl 4 rfl) ?_
      refine lv_iconst (v := 4) hx hb dL_rides_112 ic_4 ?_
      refine lv_iload hx hb dL_rides_113 (lv_at hl 5 rfl) ?_
      refine lv_imul hx hb dL_rides_115 ?_
      refine lv_iconst (v := 3) hx hb dL_rides_116 ic_3 ?_
      refine lv_iadd hx hb dL_rides_117 ?_
      refine lv_dup2_11 hx hb dL_rides_118 rfl rfl ?_
      replace hR := gi_e hR
      obtain ⟨i119, hR⟩ := hR
      refine va_iald hx hb hK hP 5 0 rfl rfl i119 dL_rides_119 ?_
      refine lv_aload_n hx hb dL_rides_120 rfl (lv_at hl 2 rfl) ?_
      refine lv_bipush (v := 7) hx hb dL_rides_121 bp_7 ?_
      refine va_iald hx hb hK hP 0 0 rfl rfl vi_7_8 dL_rides_123 ?_
      refine lv_iadd hx hb dL_rides_124 ?_
      replace hR := gi_e hR
      obtain ⟨i125, hR⟩ := hR
      refine va_iast hx hb hK hP hD hS 5 0 rfl rfl i125 dL_rides_125 (fun H125 locs125 hP' hD' hS' => ?_)
      replace hS := hS'
      have hP' : va_P (dC, dI) vwCl (fl [[(b1, .inl (cs 0, 8, .inl S1))], [(b2, .inl (cs 0, 24, .inl S2_65h))], [(b3, .inl (cs 0, 48, .inl S3_65h))], [(b4, .inl (cs 0, 48, .inl S4_65h))], [(b5, .inl (cs 0, 40, .inl S5_109))], [(b6, .inl (cs 0, 32, .inl (sU S6_65h (((4 : Int32) * v9_65) + 3).toNatClampNeg ((S6_65h  (((4 : Int32) * v9_65) + 3).toNatClampNeg) + (S1  (7 : Int32).toNatClampNeg)))))], (w_X10 ad (0) cs en S7_65h)]) H125 := hP'
      have hD' : va_D A (fl [[(b1, .inl (cs 0, 8, .inl S1))], [(b2, .inl (cs 0, 24, .inl S2_65h))], [(b3, .inl (cs 0, 48, .inl S3_65h))], [(b4, .inl (cs 0, 48, .inl S4_65h))], [(b5, .inl (cs 0, 40, .inl S5_109))], [(b6, .inl (cs 0, 32, .inl (sU S6_65h (((4 : Int32) * v9_65) + 3).toNatClampNeg ((S6_65h  (((4 : Int32) * v9_65) + 3).toNatClampNeg) + (S1  (7 : Int32).toNatClampNeg)))))], (w_X10 ad (0) cs en S7_65h)]) := hD'
      replace hR := bn_e hR
      obtain ⟨S6_125, eS6_125, hR⟩ := hR
      replace hP : va_P (dC, dI) vwCl (fl [[(b1, .inl (cs 0, 8, .inl S1))], [(b2, .inl (cs 0, 24, .inl S2_65h))], [(b3, .inl (cs 0, 48, .inl S3_65h))], [(b4, .inl (cs 0, 48, .inl S4_65h))], [(b5, .inl (cs 0, 40, .inl S5_109))], [(b6, .inl (cs 0, 32, .inl S6_125))], (w_X10 ad (0) cs en S7_65h)]) H125 := by rw [eS6_125]; exact hP'
      replace hD : va_D A (fl [[(b1, .inl (cs 0, 8, .inl S1))], [(b2, .inl (cs 0, 24, .inl S2_65h))], [(b3, .inl (cs 0, 48, .inl S3_65h))], [(b4, .inl (cs 0, 48, .inl S4_65h))], [(b5, .inl (cs 0, 40, .inl S5_109))], [(b6, .inl (cs 0, 32, .inl S6_125))], (w_X10 ad (0) cs en S7_65h)]) := by rw [eS6_125]; exact hD'
      clear hP' hD' hS'
      refine lv_aload hx hb dL_rides_126 (lv_at hl 3 rfl) ?_
      refine lv_iconst (v := 5) hx hb dL_rides_128 ic_5 ?_
      refine lv_iload hx hb dL_rides_129 (lv_at hl 5 rfl) ?_
      refine lv_imul hx hb dL_rides_131 ?_
      refine lv_iconst (v := 1) hx hb dL_rides_132 ic_1 ?_
      refine lv_iadd hx hb dL_rides_133 ?_
      refine lv_iload hx hb dL_rides_134 (lv_at hl 0 rfl) ?_
      replace hR := gi_e hR
      obtain ⟨i136, hR⟩ := hR
      refine va_iast hx hb hK hP hD hS 4 0 rfl rfl i136 dL_rides_136 (fun H136 locs136 hP' hD' hS' => ?_)
      replace hS := hS'
      have hP' : va_P (dC, dI) vwCl (fl [[(b1, .inl (cs 0, 8, .inl S1))], [(b2, .inl (cs 0, 24, .inl S2_65h))], [(b3, .inl (cs 0, 48, .inl S3_65h))], [(b4, .inl (cs 0, 48, .inl S4_65h))], [(b5, .inl (cs 0, 40, .inl (sU S5_109 (((5 : Int32) * v9_65) + 1).toNatClampNeg (t0_65 + 1000))))], [(b6, .inl (cs 0, 32, .inl S6_125))], (w_X10 ad (0) cs en S7_65h)]) H136 := hP'
      have hD' : va_D A (fl [[(b1, .inl (cs 0, 8, .inl S1))], [(b2, .inl (cs 0, 24, .inl S2_65h))], [(b3, .inl (cs 0, 48, .inl S3_65h))], [(b4, .inl (cs 0, 48, .inl S4_65h))], [(b5, .inl (cs 0, 40, .inl (sU S5_109 (((5 : Int32) * v9_65) + 1).toNatClampNeg (t0_65 + 1000))))], [(b6, .inl (cs 0, 32, .inl S6_125))], (w_X10 ad (0) cs en S7_65h)]) := hD'
      replace hR := bn_e hR
      obtain ⟨S5_136, eS5_136, hR⟩ := hR
      replace hP : va_P (dC, dI) vwCl (fl [[(b1, .inl (cs 0, 8, .inl S1))], [(b2, .inl (cs 0, 24, .inl S2_65h))], [(b3, .inl (cs 0, 48, .inl S3_65h))], [(b4, .inl (cs 0, 48, .inl S4_65h))], [(b5, .inl (cs 0, 40, .inl S5_136))], [(b6, .inl (cs 0, 32, .inl S6_125))], (w_X10 ad (0) cs en S7_65h)]) H136 := by rw [eS5_136]; exact hP'
      replace hD : va_D A (fl [[(b1, .inl (cs 0, 8, .inl S1))], [(b2, .inl (cs 0, 24, .inl S2_65h))], [(b3, .inl (cs 0, 48, .inl S3_65h))], [(b4, .inl (cs 0, 48, .inl S4_65h))], [(b5, .inl (cs 0, 40, .inl S5_136))], [(b6, .inl (cs 0, 32, .inl S6_125))], (w_X10 ad (0) cs en S7_65h)]) := by rw [eS5_136]; exact hD'
      clear hP' hD' hS'
      refine lv_aload_n hx hb dL_rides_137 rfl (lv_at hl 1 rfl) ?_
      refine lv_iload hx hb dL_rides_138 (lv_at hl 5 rfl) ?_
      replace hR := bd_e hR
      obtain ⟨q140, gq140, hR⟩ := hR
      refine cm_Vi (As := [.int v9_65]) (rest := []) (L := [[(b1, .inl (cs 0, 8, .inl S1))], [(b2, .inl (cs 0, 24, .inl S2_65h))], [(b3, .inl (cs 0, 48, .inl S3_65h))], [(b4, .inl (cs 0, 48, .inl S4_65h))], [(b5, .inl (cs 0, 40, .inl S5_136))], [(b6, .inl (cs 0, 32, .inl S6_125))], (w_X10 ad (0) cs en S7_65h)]) (L' := [[(b1, .inl (cs 0, 8, .inl S1))], [(b2, .inl (cs 0, 24, .inl S2_65h))], [(b3, .inl (cs 0, 48, .inl S3_65h))], [(b4, .inl (cs 0, 48, .inl S4_65h))], [(b5, .inl (cs 0, 40, .inl S5_136))], [(b6, .inl (cs 0, 32, .inl S6_125))], (w_X10 ad (0) cs en q140.2)]) (Wc := [(w_X10 ad (0) cs en S7_65h)]) (Wc' := [(w_X10 ad (0) cs en q140.2)]) (is := [6]) (js := [0, 1, 2, 3, 4, 5]) ⟨hx, hb, hml, hown, hts⟩ (k_X10_pass l dC dI cs ad en H136.size S7_65h v9_65 q140.1 q140.2 gq140) (cwV 1 hts gL_rides_X10_pass rfl rfl rfl cd_X10_pass ⟨Nat.le_of_ble_eq_true rfl, Nat.le_of_ble_eq_true rfl⟩) hK hP hD hS hA (jx_6 (w_X10_fst ad 0 cs en _ _)) (jn_nd (is := [6]) hD rfl rfl) 6 8 rfl rfl rfl rfl rfl hl.1 (Nat.le_of_ble_eq_true rfl) dL_rides_140 ⟨Nat.le_of_ble_eq_true rfl, Nat.le_of_ble_eq_true rfl⟩ (fun H140 locs140 hP' hD' hS' => ?_)
      replace hS := hS'
      replace hP : va_P (dC, dI) vwCl (fl [[(b1, .inl (cs 0, 8, .inl S1))], [(b2, .inl (cs 0, 24, .inl S2_65h))], [(b3, .inl (cs 0, 48, .inl S3_65h))], [(b4, .inl (cs 0, 48, .inl S4_65h))], [(b5, .inl (cs 0, 40, .inl S5_136))], [(b6, .inl (cs 0, 32, .inl S6_125))], (w_X10 ad (0) cs en q140.2)]) H140 := hP'
      replace hD : va_D A (fl [[(b1, .inl (cs 0, 8, .inl S1))], [(b2, .inl (cs 0, 24, .inl S2_65h))], [(b3, .inl (cs 0, 48, .inl S3_65h))], [(b4, .inl (cs 0, 48, .inl S4_65h))], [(b5, .inl (cs 0, 40, .inl S5_136))], [(b6, .inl (cs 0, 32, .inl S6_125))], (w_X10 ad (0) cs en q140.2)]) := hD'
      clear hP' hD' hS'
      refine lv_iload hx hb dL_rides_143 (lv_at hl 0 rfl) ?_
      refine lv_icmp_ne (tgt := 152) hx hb dL_rides_145 (by decide) (fun c145 => ?_) (fun c145 => ?_)
      · replace hR := it_f hR c145
        refine lv_iconst (v := 0) hx hb dL_rides_152 ic_0 ?_
        replace hR := Option.some.inj hR
        obtain ⟨e9, hR⟩ := Prod.mk.inj hR
        obtain ⟨eu2, hR⟩ := Prod.mk.inj hR
        obtain ⟨eu3, hR⟩ := Prod.mk.inj hR
        obtain ⟨eu4, hR⟩ := Prod.mk.inj hR
        obtain ⟨eu5, hR⟩ := Prod.mk.inj hR
        obtain ⟨eu6, hR⟩ := Prod.mk.inj hR
        have eu7 := hR
        replace hP : va_P (dC, dI) vwCl (fl [[(b1, .inl (cs 0, 8, .inl S1))], [(b2, .inl (cs 0, 24, .inl u2))], [(b3, .inl (cs 0, 48, .inl u3))], [(b4, .inl (cs 0, 48, .inl u4))], [(b5, .inl (cs 0, 40, .inl u5))], [(b6, .inl (cs 0, 32, .inl u6))], (w_X10 ad (0) cs en u7)]) H140 := by rw [← eu2, ← eu3, ← eu4, ← eu5, ← eu6, ← eu7]; exact hP
        replace hD : va_D A (fl [[(b1, .inl (cs 0, 8, .inl S1))], [(b2, .inl (cs 0, 24, .inl u2))], [(b3, .inl (cs 0, 48, .inl u3))], [(b4, .inl (cs 0, 48, .inl u4))], [(b5, .inl (cs 0, 40, .inl u5))], [(b6, .inl (cs 0, 32, .inl u6))], (w_X10 ad (0) cs en u7)]) := by rw [← eu2, ← eu3, ← eu4, ← eu5, ← eu6, ← eu7]; exact hD
        exact W.zret (ty := .boolean) hx hb hr (by decide) (fun t ht hW => ⟨⟨_, (), rfl, e9, by rw [ht]; exact hP, va_K.moved hW.alike hK, hD⟩, hS.F ht⟩) hS.2.2 dL_rides_153
      · replace hR := it_t hR c145
        refine lv_iconst (v := 1) hx hb dL_rides_148 ic_1 ?_
        refine lv_goto (tgt := 153) hx hb dL_rides_149 (by decide) ?_
        replace hR := Option.some.inj hR
        obtain ⟨e9, hR⟩ := Prod.mk.inj hR
        obtain ⟨eu2, hR⟩ := Prod.mk.inj hR
        obtain ⟨eu3, hR⟩ := Prod.mk.inj hR
        obtain ⟨eu4, hR⟩ := Prod.mk.inj hR
        obtain ⟨eu5, hR⟩ := Prod.mk.inj hR
        obtain ⟨eu6, hR⟩ := Prod.mk.inj hR
        have eu7 := hR
        replace hP : va_P (dC, dI) vwCl (fl [[(b1, .inl (cs 0, 8, .inl S1))], [(b2, .inl (cs 0, 24, .inl u2))], [(b3, .inl (cs 0, 48, .inl u3))], [(b4, .inl (cs 0, 48, .inl u4))], [(b5, .inl (cs 0, 40, .inl u5))], [(b6, .inl (cs 0, 32, .inl u6))], (w_X10 ad (0) cs en u7)]) H140 := by rw [← eu2, ← eu3, ← eu4, ← eu5, ← eu6, ← eu7]; exact hP
        replace hD : va_D A (fl [[(b1, .inl (cs 0, 8, .inl S1))], [(b2, .inl (cs 0, 24, .inl u2))], [(b3, .inl (cs 0, 48, .inl u3))], [(b4, .inl (cs 0, 48, .inl u4))], [(b5, .inl (cs 0, 40, .inl u5))], [(b6, .inl (cs 0, 32, .inl u6))], (w_X10 ad (0) cs en u7)]) := by rw [← eu2, ← eu3, ← eu4, ← eu5, ← eu6, ← eu7]; exact hD
        exact W.zret (ty := .boolean) hx hb hr (by decide) (fun t ht hW => ⟨⟨_, (), rfl, e9, by rw [ht]; exact hP, va_K.moved hW.alike hK, hD⟩, hS.F ht⟩) hS.2.2 dL_rides_153
    · replace hR := it_f hR c76
      refine lv_aload_n hx hb dL_rides_79 rfl (lv_at hl 1 rfl) ?_
      refine lv_iload hx hb dL_rides_80 (lv_at hl 5 rfl) ?_
      replace hR := bd_e hR
      obtain ⟨q82, gq82, hR⟩ := hR
      refine cm_Vi (As := [.int v9_65]) (rest := []) (L := [[(b1, .inl (cs 0, 8, .inl S1))], [(b2, .inl (cs 0, 24, .inl S2_65h))], [(b3, .inl (cs 0, 48, .inl S3_65h))], [(b4, .inl (cs 0, 48, .inl S4_65h))], [(b5, .inl (cs 0, 40, .inl S5_65h))], [(b6, .inl (cs 0, 32, .inl S6_65h))], (w_X10 ad (0) cs en S7_65h)]) (L' := [[(b1, .inl (cs 0, 8, .inl S1))], [(b2, .inl (cs 0, 24, .inl S2_65h))], [(b3, .inl (cs 0, 48, .inl S3_65h))], [(b4, .inl (cs 0, 48, .inl S4_65h))], [(b5, .inl (cs 0, 40, .inl S5_65h))], [(b6, .inl (cs 0, 32, .inl S6_65h))], (w_X10 ad (0) cs en q82.2)]) (Wc := [(w_X10 ad (0) cs en S7_65h)]) (Wc' := [(w_X10 ad (0) cs en q82.2)]) (is := [6]) (js := [0, 1, 2, 3, 4, 5]) ⟨hx, hb, hml, hown, hts⟩ (k_X10_pass l dC dI cs ad en H.size S7_65h v9_65 q82.1 q82.2 gq82) (cwV 1 hts gL_rides_X10_pass rfl rfl rfl cd_X10_pass ⟨Nat.le_of_ble_eq_true rfl, Nat.le_of_ble_eq_true rfl⟩) hK hP hD hS hA (jx_6 (w_X10_fst ad 0 cs en _ _)) (jn_nd (is := [6]) hD rfl rfl) 6 8 rfl rfl rfl rfl rfl hl.1 (Nat.le_of_ble_eq_true rfl) dL_rides_82 ⟨Nat.le_of_ble_eq_true rfl, Nat.le_of_ble_eq_true rfl⟩ (fun H82 locs82 hP' hD' hS' => ?_)
      replace hS := hS'
      replace hP : va_P (dC, dI) vwCl (fl [[(b1, .inl (cs 0, 8, .inl S1))], [(b2, .inl (cs 0, 24, .inl S2_65h))], [(b3, .inl (cs 0, 48, .inl S3_65h))], [(b4, .inl (cs 0, 48, .inl S4_65h))], [(b5, .inl (cs 0, 40, .inl S5_65h))], [(b6, .inl (cs 0, 32, .inl S6_65h))], (w_X10 ad (0) cs en q82.2)]) H82 := hP'
      replace hD : va_D A (fl [[(b1, .inl (cs 0, 8, .inl S1))], [(b2, .inl (cs 0, 24, .inl S2_65h))], [(b3, .inl (cs 0, 48, .inl S3_65h))], [(b4, .inl (cs 0, 48, .inl S4_65h))], [(b5, .inl (cs 0, 40, .inl S5_65h))], [(b6, .inl (cs 0, 32, .inl S6_65h))], (w_X10 ad (0) cs en q82.2)]) := hD'
      clear hP' hD' hS'
      refine lv_bipush (v := (-3)) hx hb dL_rides_85 bp_m3 ?_
      refine lv_icmp_ne (tgt := 94) hx hb dL_rides_87 (by decide) (fun c87 => ?_) (fun c87 => ?_)
      · replace hR := it_f hR c87
        refine lv_iconst (v := 0) hx hb dL_rides_94 ic_0 ?_
        replace hR := Option.some.inj hR
        obtain ⟨e9, hR⟩ := Prod.mk.inj hR
        obtain ⟨eu2, hR⟩ := Prod.mk.inj hR
        obtain ⟨eu3, hR⟩ := Prod.mk.inj hR
        obtain ⟨eu4, hR⟩ := Prod.mk.inj hR
        obtain ⟨eu5, hR⟩ := Prod.mk.inj hR
        obtain ⟨eu6, hR⟩ := Prod.mk.inj hR
        have eu7 := hR
        replace hP : va_P (dC, dI) vwCl (fl [[(b1, .inl (cs 0, 8, .inl S1))], [(b2, .inl (cs 0, 24, .inl u2))], [(b3, .inl (cs 0, 48, .inl u3))], [(b4, .inl (cs 0, 48, .inl u4))], [(b5, .inl (cs 0, 40, .inl u5))], [(b6, .inl (cs 0, 32, .inl u6))], (w_X10 ad (0) cs en u7)]) H82 := by rw [← eu2, ← eu3, ← eu4, ← eu5, ← eu6, ← eu7]; exact hP
        replace hD : va_D A (fl [[(b1, .inl (cs 0, 8, .inl S1))], [(b2, .inl (cs 0, 24, .inl u2))], [(b3, .inl (cs 0, 48, .inl u3))], [(b4, .inl (cs 0, 48, .inl u4))], [(b5, .inl (cs 0, 40, .inl u5))], [(b6, .inl (cs 0, 32, .inl u6))], (w_X10 ad (0) cs en u7)]) := by rw [← eu2, ← eu3, ← eu4, ← eu5, ← eu6, ← eu7]; exact hD
        exact W.zret (ty := .boolean) hx hb hr (by decide) (fun t ht hW => ⟨⟨_, (), rfl, e9, by rw [ht]; exact hP, va_K.moved hW.alike hK, hD⟩, hS.F ht⟩) hS.2.2 dL_rides_95
      · replace hR := it_t hR c87
        refine lv_iconst (v := 1) hx hb dL_rides_90 ic_1 ?_
        refine lv_goto (tgt := 95) hx hb dL_rides_91 (by decide) ?_
        replace hR := Option.some.inj hR
        obtain ⟨e9, hR⟩ := Prod.mk.inj hR
        obtain ⟨eu2, hR⟩ := Prod.mk.inj hR
        obtain ⟨eu3, hR⟩ := Prod.mk.inj hR
        obtain ⟨eu4, hR⟩ := Prod.mk.inj hR
        obtain ⟨eu5, hR⟩ := Prod.mk.inj hR
        obtain ⟨eu6, hR⟩ := Prod.mk.inj hR
        have eu7 := hR
        replace hP : va_P (dC, dI) vwCl (fl [[(b1, .inl (cs 0, 8, .inl S1))], [(b2, .inl (cs 0, 24, .inl u2))], [(b3, .inl (cs 0, 48, .inl u3))], [(b4, .inl (cs 0, 48, .inl u4))], [(b5, .inl (cs 0, 40, .inl u5))], [(b6, .inl (cs 0, 32, .inl u6))], (w_X10 ad (0) cs en u7)]) H82 := by rw [← eu2, ← eu3, ← eu4, ← eu5, ← eu6, ← eu7]; exact hP
        replace hD : va_D A (fl [[(b1, .inl (cs 0, 8, .inl S1))], [(b2, .inl (cs 0, 24, .inl u2))], [(b3, .inl (cs 0, 48, .inl u3))], [(b4, .inl (cs 0, 48, .inl u4))], [(b5, .inl (cs 0, 40, .inl u5))], [(b6, .inl (cs 0, 32, .inl u6))], (w_X10 ad (0) cs en u7)]) := by rw [← eu2, ← eu3, ← eu4, ← eu5, ← eu6, ← eu7]; exact hD
        exact W.zret (ty := .boolean) hx hb hr (by decide) (fun t ht hW => ⟨⟨_, (), rfl, e9, by rw [ht]; exact hP, va_K.moved hW.alike hK, hD⟩, hS.F ht⟩) hS.2.2 dL_rides_95
  refine lv_iload hx hb dL_rides_0 (lv_at hl 8 rfl) ?_
  refine lv_aload_n hx hb dL_rides_2 rfl (lv_at hl 1 rfl) ?_
  refine lv_iconst (v := 2) hx hb dL_rides_3 ic_2 ?_
  refine va_iald hx hb hK hP 0 0 rfl rfl vi_2_8 dL_rides_4 ?_
  replace hR := nz_e hR
  obtain ⟨z5, hR⟩ := hR
  refine lv_irem hx hb dL_rides_5 z5 ?_
  replace hR := bn_e hR
  obtain ⟨x6, ex6, hR⟩ := hR
  refine tp_g ex6 ?_
  refine lv_istore (lv' := [(9, .int x6), (0, .ref (ad 0)), (1, .ref b1), (2, .ref b2), (3, .ref b3), (4, .ref b4), (5, .ref b5), (6, .ref b6), (7, .int p7), (8, .int p8)]) hx hb dL_rides_6 hl (Nat.le_of_ble_eq_true rfl) rfl (fun ls hl => ?_)
  refine lv_iload hx hb dL_rides_8 (lv_at hl 9 rfl) ?_
  refine lv_bipush (v := 8) hx hb dL_rides_10 bp_8 ?_
  refine lv_idiv hx hb dL_rides_12 (by decide) ?_
  refine lv_aload_n hx hb dL_rides_13 rfl (lv_at hl 2 rfl) ?_
  refine lv_iconst (v := 0) hx hb dL_rides_14 ic_0 ?_
  refine va_iald hx hb hK hP 0 0 rfl rfl vi_0_8 dL_rides_15 ?_
  replace hR := nz_e hR
  obtain ⟨z16, hR⟩ := hR
  refine lv_irem hx hb dL_rides_16 z16 ?_
  replace hR := bn_e hR
  obtain ⟨x17, ex17, hR⟩ := hR
  refine tp_g ex17 ?_
  refine lv_istore (lv' := [(10, .int x17), (9, .int x6), (0, .ref (ad 0)), (1, .ref b1), (2, .ref b2), (3, .ref b3), (4, .ref b4), (5, .ref b5), (6, .ref b6), (7, .int p7), (8, .int p8)]) hx hb dL_rides_17 hl (Nat.le_of_ble_eq_true rfl) rfl (fun ls hl => ?_)
  refine lv_aload hx hb dL_rides_19 (lv_at hl 7 rfl) ?_
  refine lv_iconst (v := 5) hx hb dL_rides_21 ic_5 ?_
  refine lv_iload hx hb dL_rides_22 (lv_at hl 1 rfl) ?_
  refine lv_imul hx hb dL_rides_24 ?_
  refine lv_iconst (v := 2) hx hb dL_rides_25 ic_2 ?_
  refine lv_iadd hx hb dL_rides_26 ?_
  replace hR := gi_e hR
  obtain ⟨i27, hR⟩ := hR
  refine va_iald hx hb hK hP 4 0 rfl rfl i27 dL_rides_27 ?_
  refine lv_istore (lv' := [(11, .int (S5  (((5 : Int32) * x6) + 2).toNatClampNeg)), (10, .int x17), (9, .int x6), (0, .ref (ad 0)), (1, .ref b1), (2, .ref b2), (3, .ref b3), (4, .ref b4), (5, .ref b5), (6, .ref b6), (7, .int p7), (8, .int p8)]) hx hb dL_rides_28 hl (Nat.le_of_ble_eq_true rfl) rfl (fun ls hl => ?_)
  refine lv_iload hx hb dL_rides_30 (lv_at hl 10 rfl) ?_
  refine lv_if_ne (tgt := 154) hx hb dL_rides_32 (by decide) (fun c32 => ?_) (fun c32 => ?_)
  · replace hR := it_f hR c32
    refine lv_iload hx hb dL_rides_154 (lv_at hl 10 rfl) ?_
    refine lv_iconst (v := 1) hx hb dL_rides_156 ic_1 ?_
    refine lv_icmp_ne (tgt := 422) hx hb dL_rides_157 (by decide) (fun c157 => ?_) (fun c157 => ?_)
    · replace hR := it_f hR c157
      refine lv_iload hx hb dL_rides_422 (lv_at hl 10 rfl) ?_
      refine lv_iconst (v := 2) hx hb dL_rides_424 ic_2 ?_
      refine lv_icmp_ne (tgt := 596) hx hb dL_rides_425 (by decide) (fun c425 => ?_) (fun c425 => ?_)
      · replace hR := it_f hR c425
        refine lv_iload hx hb dL_rides_596 (lv_at hl 0 rfl) ?_
        refine lv_if_lt (tgt := 630) hx hb dL_rides_598 (by decide) (fun c598 => ?_) (fun c598 => ?_)
        · replace hR := it_t hR c598
          exact hB630 S2 S3 S4 S5 S6 S7 x6 x17 s.heap _ ls hR hP hD hS (lv_sub hl [3, 2, 1] rfl)
        · replace hR := it_f hR c598
          refine lv_aload_n hx hb dL_rides_601 rfl (lv_at hl 4 rfl) ?_
          refine lv_aload_n hx hb dL_rides_602 rfl (lv_at hl 5 rfl) ?_
          refine lv_aload_n hx hb dL_rides_603 rfl (lv_at hl 6 rfl) ?_
          refine lv_iload hx hb dL_rides_604 (lv_at hl 1 rfl) ?_
          replace hR := bd_e hR
          obtain ⟨q606, gq606, hR⟩ := hR
          refine cm_Si (As := [.ref b1, .ref b2, .ref b3, .int x17]) (rest := []) (L := [[(b1, .inl (cs 0, 8, .inl S1))], [(b2, .inl (cs 0, 24, .inl S2))], [(b3, .inl (cs 0, 48, .inl S3))], [(b4, .inl (cs 0, 48, .inl S4))], [(b5, .inl (cs 0, 40, .inl S5))], [(b6, .inl (cs 0, 32, .inl S6))], (w_X10 ad (0) cs en S7)]) (L' := [[(b1, .inl (cs 0, 8, .inl S1))], [(b2, .inl (cs 0, 24, .inl S2))], [(b3, .inl (cs 0, 48, .inl S3))], [(b4, .inl (cs 0, 48, .inl S4))], [(b5, .inl (cs 0, 40, .inl S5))], [(b6, .inl (cs 0, 32, .inl S6))], (w_X10 ad (0) cs en S7)]) (Wc := [[(b1, .inl (cs 0, 8, .inl S1))], [(b2, .inl (cs 0, 24, .inl S2))], [(b3, .inl (cs 0, 48, .inl S3))]]) (Wc' := [[(b1, .inl (cs 0, 8, .inl S1))], [(b2, .inl (cs 0, 24, .inl S2))], [(b3, .inl (cs 0, 48, .inl S3))]]) (is := [0, 1, 2]) (js := [3, 4, 5, 6]) ⟨hx, hb, hml, hown, hts⟩ (k_L_free l dC dI cs ad (b1) (b2) (b3) s.heap.size S1 S2 S3 x17 q606 gq606) (va_cwS 4 hts gL_rides_L_free rfl rfl rfl cd_L_free.2 ⟨Nat.le_of_ble_eq_true rfl, Nat.le_of_ble_eq_true rfl⟩) hK hP hD hS hA ⟨rfl, rfl, rfl, rfl, rfl, rfl⟩ (jn_nd (is := [0, 1, 2]) hD rfl rfl) rfl rfl hl.1 (Nat.le_of_ble_eq_true rfl) dL_rides_606 ⟨Nat.le_of_ble_eq_true rfl, Nat.le_of_ble_eq_true rfl⟩ (fun H606 locs606 hP' hD' hS' => ?_)
          replace hS := hS'
          replace hP : va_P (dC, dI) vwCl (fl [[(b1, .inl (cs 0, 8, .inl S1))], [(b2, .inl (cs 0, 24, .inl S2))], [(b3, .inl (cs 0, 48, .inl S3))], [(b4, .inl (cs 0, 48, .inl S4))], [(b5, .inl (cs 0, 40, .inl S5))], [(b6, .inl (cs 0, 32, .inl S6))], (w_X10 ad (0) cs en S7)]) H606 := hP'
          replace hD : va_D A (fl [[(b1, .inl (cs 0, 8, .inl S1))], [(b2, .inl (cs 0, 24, .inl S2))], [(b3, .inl (cs 0, 48, .inl S3))], [(b4, .inl (cs 0, 48, .inl S4))], [(b5, .inl (cs 0, 40, .inl S5))], [(b6, .inl (cs 0, 32, .inl S6))], (w_X10 ad (0) cs en S7)]) := hD'
          clear hP' hD' hS'
          refine lv_if_ne (tgt := 630) hx hb dL_rides_609 (by decide) (fun c609 => ?_) (fun c609 => ?_)
          · replace hR := it_f hR c609
            exact hB630 S2 S3 S4 S5 S6 S7 x6 x17 H606 _ ls hR hP hD hS (lv_sub hl [3, 2, 1] rfl)
          · replace hR := it_t hR c609
            refine lv_aload hx hb dL_rides_612 (lv_at hl 9 rfl) ?_
            refine lv_iconst (v := 4) hx hb dL_rides_614 ic_4 ?_
            refine lv_iload hx hb dL_rides_615 (lv_at hl 2 rfl) ?_
            refine lv_imul hx hb dL_rides_617 ?_
            refine lv_iconst (v := 1) hx hb dL_rides_618 ic_1 ?_
            refine lv_iadd hx hb dL_rides_619 ?_
            replace hR := gi_e hR
            obtain ⟨i620, hR⟩ := hR
            refine va_iald hx hb hK hP 5 0 rfl rfl i620 dL_rides_620 ?_
            refine lv_iload hx hb dL_rides_621 (lv_at hl 1 rfl) ?_
            refine lv_ishr hx hb dL_rides_623 ?_
            refine lv_iconst (v := 1) hx hb dL_rides_624 ic_1 ?_
            refine lv_iand hx hb dL_rides_625 ?_
            refine lv_iconst (v := 1) hx hb dL_rides_626 ic_1 ?_
            refine lv_icmp_ne (tgt := 649) hx hb dL_rides_627 (by decide) (fun c627 => ?_) (fun c627 => ?_)
            · replace hR := it_f hR c627
              refine lv_aload hx hb dL_rides_649 (lv_at hl 9 rfl) ?_
              refine lv_iconst (v := 4) hx hb dL_rides_651 ic_4 ?_
              refine lv_iload hx hb dL_rides_652 (lv_at hl 2 rfl) ?_
              refine lv_imul hx hb dL_rides_654 ?_
              refine lv_iconst (v := 1) hx hb dL_rides_655 ic_1 ?_
              refine lv_iadd hx hb dL_rides_656 ?_
              refine lv_dup2_11 hx hb dL_rides_657 rfl rfl ?_
              replace hR := gi_e hR
              obtain ⟨i658, hR⟩ := hR
              refine va_iald hx hb hK hP 5 0 rfl rfl i658 dL_rides_658 ?_
              refine lv_iconst (v := 1) hx hb dL_rides_659 ic_1 ?_
              refine lv_iload hx hb dL_rides_660 (lv_at hl 1 rfl) ?_
              refine lv_ishl hx hb dL_rides_662 ?_
              refine lv_iadd hx hb dL_rides_663 ?_
              replace hR := gi_e hR
              obtain ⟨i664, hR⟩ := hR
              refine va_iast hx hb hK hP hD hS 5 0 rfl rfl i664 dL_rides_664 (fun H664 locs664 hP' hD' hS' => ?_)
              replace hS := hS'
              have hP' : va_P (dC, dI) vwCl (fl [[(b1, .inl (cs 0, 8, .inl S1))], [(b2, .inl (cs 0, 24, .inl S2))], [(b3, .inl (cs 0, 48, .inl S3))], [(b4, .inl (cs 0, 48, .inl S4))], [(b5, .inl (cs 0, 40, .inl S5))], [(b6, .inl (cs 0, 32, .inl (sU S6 (((4 : Int32) * x6) + 1).toNatClampNeg ((S6  (((4 : Int32) * x6) + 1).toNatClampNeg) + ((1 : Int32) <<< (x17 &&& 31))))))], (w_X10 ad (0) cs en S7)]) H664 := hP'
              have hD' : va_D A (fl [[(b1, .inl (cs 0, 8, .inl S1))], [(b2, .inl (cs 0, 24, .inl S2))], [(b3, .inl (cs 0, 48, .inl S3))], [(b4, .inl (cs 0, 48, .inl S4))], [(b5, .inl (cs 0, 40, .inl S5))], [(b6, .inl (cs 0, 32, .inl (sU S6 (((4 : Int32) * x6) + 1).toNatClampNeg ((S6  (((4 : Int32) * x6) + 1).toNatClampNeg) + ((1 : Int32) <<< (x17 &&& 31))))))], (w_X10 ad (0) cs en S7)]) := hD'
              replace hR := bn_e hR
              obtain ⟨S6_664, eS6_664, hR⟩ := hR
              replace hP : va_P (dC, dI) vwCl (fl [[(b1, .inl (cs 0, 8, .inl S1))], [(b2, .inl (cs 0, 24, .inl S2))], [(b3, .inl (cs 0, 48, .inl S3))], [(b4, .inl (cs 0, 48, .inl S4))], [(b5, .inl (cs 0, 40, .inl S5))], [(b6, .inl (cs 0, 32, .inl S6_664))], (w_X10 ad (0) cs en S7)]) H664 := by rw [eS6_664]; exact hP'
              replace hD : va_D A (fl [[(b1, .inl (cs 0, 8, .inl S1))], [(b2, .inl (cs 0, 24, .inl S2))], [(b3, .inl (cs 0, 48, .inl S3))], [(b4, .inl (cs 0, 48, .inl S4))], [(b5, .inl (cs 0, 40, .inl S5))], [(b6, .inl (cs 0, 32, .inl S6_664))], (w_X10 ad (0) cs en S7)]) := by rw [eS6_664]; exact hD'
              clear hP' hD' hS'
              refine lv_aload hx hb dL_rides_665 (lv_at hl 8 rfl) ?_
              refine lv_iconst (v := 5) hx hb dL_rides_667 ic_5 ?_
              refine lv_iload hx hb dL_rides_668 (lv_at hl 2 rfl) ?_
              refine lv_imul hx hb dL_rides_670 ?_
              refine lv_iconst (v := 4) hx hb dL_rides_671 ic_4 ?_
              refine lv_iadd hx hb dL_rides_672 ?_
              refine lv_dup2_11 hx hb dL_rides_673 rfl rfl ?_
              replace hR := gi_e hR
              obtain ⟨i674, hR⟩ := hR
              refine va_iald hx hb hK hP 4 0 rfl rfl i674 dL_rides_674 ?_
              refine lv_bipush (v := 15) hx hb dL_rides_675 bp_15 ?_
              refine lv_iadd hx hb dL_rides_677 ?_
              replace hR := gi_e hR
              obtain ⟨i678, hR⟩ := hR
              refine va_iast hx hb hK hP hD hS 4 0 rfl rfl i678 dL_rides_678 (fun H678 locs678 hP' hD' hS' => ?_)
              replace hS := hS'
              have hP' : va_P (dC, dI) vwCl (fl [[(b1, .inl (cs 0, 8, .inl S1))], [(b2, .inl (cs 0, 24, .inl S2))], [(b3, .inl (cs 0, 48, .inl S3))], [(b4, .inl (cs 0, 48, .inl S4))], [(b5, .inl (cs 0, 40, .inl (sU S5 (((5 : Int32) * x6) + 4).toNatClampNeg ((S5  (((5 : Int32) * x6) + 4).toNatClampNeg) + 15))))], [(b6, .inl (cs 0, 32, .inl S6_664))], (w_X10 ad (0) cs en S7)]) H678 := hP'
              have hD' : va_D A (fl [[(b1, .inl (cs 0, 8, .inl S1))], [(b2, .inl (cs 0, 24, .inl S2))], [(b3, .inl (cs 0, 48, .inl S3))], [(b4, .inl (cs 0, 48, .inl S4))], [(b5, .inl (cs 0, 40, .inl (sU S5 (((5 : Int32) * x6) + 4).toNatClampNeg ((S5  (((5 : Int32) * x6) + 4).toNatClampNeg) + 15))))], [(b6, .inl (cs 0, 32, .inl S6_664))], (w_X10 ad (0) cs en S7)]) := hD'
              replace hR := bn_e hR
              obtain ⟨S5_678, eS5_678, hR⟩ := hR
              replace hP : va_P (dC, dI) vwCl (fl [[(b1, .inl (cs 0, 8, .inl S1))], [(b2, .inl (cs 0, 24, .inl S2))], [(b3, .inl (cs 0, 48, .inl S3))], [(b4, .inl (cs 0, 48, .inl S4))], [(b5, .inl (cs 0, 40, .inl S5_678))], [(b6, .inl (cs 0, 32, .inl S6_664))], (w_X10 ad (0) cs en S7)]) H678 := by rw [eS5_678]; exact hP'
              replace hD : va_D A (fl [[(b1, .inl (cs 0, 8, .inl S1))], [(b2, .inl (cs 0, 24, .inl S2))], [(b3, .inl (cs 0, 48, .inl S3))], [(b4, .inl (cs 0, 48, .inl S4))], [(b5, .inl (cs 0, 40, .inl S5_678))], [(b6, .inl (cs 0, 32, .inl S6_664))], (w_X10 ad (0) cs en S7)]) := by rw [eS5_678]; exact hD'
              clear hP' hD' hS'
              refine lv_aload_n hx hb dL_rides_679 rfl (lv_at hl 3 rfl) ?_
              refine lv_iload hx hb dL_rides_680 (lv_at hl 2 rfl) ?_
              refine lv_iload hx hb dL_rides_682 (lv_at hl 1 rfl) ?_
              replace hR := bd_e hR
              obtain ⟨q684, gq684, hR⟩ := hR
              refine cm_Vi (As := [.int x6, .int x17]) (rest := []) (L := [[(b1, .inl (cs 0, 8, .inl S1))], [(b2, .inl (cs 0, 24, .inl S2))], [(b3, .inl (cs 0, 48, .inl S3))], [(b4, .inl (cs 0, 48, .inl S4))], [(b5, .inl (cs 0, 40, .inl S5_678))], [(b6, .inl (cs 0, 32, .inl S6_664))], (w_X10 ad (0) cs en S7)]) (L' := [[(b1, .inl (cs 0, 8, .inl S1))], [(b2, .inl (cs 0, 24, .inl S2))], [(b3, .inl (cs 0, 48, .inl S3))], [(b4, .inl (cs 0, 48, .inl S4))], [(b5, .inl (cs 0, 40, .inl S5_678))], [(b6, .inl (cs 0, 32, .inl S6_664))], (w_X10 ad (0) cs en q684.2)]) (Wc := [(w_X10 ad (0) cs en S7)]) (Wc' := [(w_X10 ad (0) cs en q684.2)]) (is := [6]) (js := [0, 1, 2, 3, 4, 5]) ⟨hx, hb, hml, hown, hts⟩ (k_X10_full l dC dI cs ad en H678.size S7 x6 x17 q684.1 q684.2 gq684) (cwV 2 hts gL_rides_X10_full rfl rfl rfl cd_X10_full ⟨Nat.le_of_ble_eq_true rfl, Nat.le_of_ble_eq_true rfl⟩) hK hP hD hS hA (jx_6 (w_X10_fst ad 0 cs en _ _)) (jn_nd (is := [6]) hD rfl rfl) 6 8 rfl rfl rfl rfl rfl hl.1 (Nat.le_of_ble_eq_true rfl) dL_rides_684 ⟨Nat.le_of_ble_eq_true rfl, Nat.le_of_ble_eq_true rfl⟩ (fun H684 locs684 hP' hD' hS' => ?_)
              replace hS := hS'
              replace hP : va_P (dC, dI) vwCl (fl [[(b1, .inl (cs 0, 8, .inl S1))], [(b2, .inl (cs 0, 24, .inl S2))], [(b3, .inl (cs 0, 48, .inl S3))], [(b4, .inl (cs 0, 48, .inl S4))], [(b5, .inl (cs 0, 40, .inl S5_678))], [(b6, .inl (cs 0, 32, .inl S6_664))], (w_X10 ad (0) cs en q684.2)]) H684 := hP'
              replace hD : va_D A (fl [[(b1, .inl (cs 0, 8, .inl S1))], [(b2, .inl (cs 0, 24, .inl S2))], [(b3, .inl (cs 0, 48, .inl S3))], [(b4, .inl (cs 0, 48, .inl S4))], [(b5, .inl (cs 0, 40, .inl S5_678))], [(b6, .inl (cs 0, 32, .inl S6_664))], (w_X10 ad (0) cs en q684.2)]) := hD'
              clear hP' hD' hS'
              refine lv_aload hx hb dL_rides_687 (lv_at hl 8 rfl) ?_
              refine lv_iconst (v := 5) hx hb dL_rides_689 ic_5 ?_
              refine lv_iload hx hb dL_rides_690 (lv_at hl 2 rfl) ?_
              refine lv_imul hx hb dL_rides_692 ?_
              refine lv_iconst (v := 4) hx hb dL_rides_693 ic_4 ?_
              refine lv_iadd hx hb dL_rides_694 ?_
              replace hR := gi_e hR
              obtain ⟨i695, hR⟩ := hR
              refine va_iald hx hb hK hP 4 0 rfl rfl i695 dL_rides_695 ?_
              refine lv_icmp_ne (tgt := 703) hx hb dL_rides_696 (by decide) (fun c696 => ?_) (fun c696 => ?_)
              · replace hR := it_f hR c696
                refine lv_iconst (v := 0) hx hb dL_rides_703 ic_0 ?_
                replace hR := Option.some.inj hR
                obtain ⟨e9, hR⟩ := Prod.mk.inj hR
                obtain ⟨eu2, hR⟩ := Prod.mk.inj hR
                obtain ⟨eu3, hR⟩ := Prod.mk.inj hR
                obtain ⟨eu4, hR⟩ := Prod.mk.inj hR
                obtain ⟨eu5, hR⟩ := Prod.mk.inj hR
                obtain ⟨eu6, hR⟩ := Prod.mk.inj hR
                have eu7 := hR
                replace hP : va_P (dC, dI) vwCl (fl [[(b1, .inl (cs 0, 8, .inl S1))], [(b2, .inl (cs 0, 24, .inl u2))], [(b3, .inl (cs 0, 48, .inl u3))], [(b4, .inl (cs 0, 48, .inl u4))], [(b5, .inl (cs 0, 40, .inl u5))], [(b6, .inl (cs 0, 32, .inl u6))], (w_X10 ad (0) cs en u7)]) H684 := by rw [← eu2, ← eu3, ← eu4, ← eu5, ← eu6, ← eu7]; exact hP
                replace hD : va_D A (fl [[(b1, .inl (cs 0, 8, .inl S1))], [(b2, .inl (cs 0, 24, .inl u2))], [(b3, .inl (cs 0, 48, .inl u3))], [(b4, .inl (cs 0, 48, .inl u4))], [(b5, .inl (cs 0, 40, .inl u5))], [(b6, .inl (cs 0, 32, .inl u6))], (w_X10 ad (0) cs en u7)]) := by rw [← eu2, ← eu3, ← eu4, ← eu5, ← eu6, ← eu7]; exact hD
                exact W.zret (ty := .boolean) hx hb hr (by decide) (fun t ht hW => ⟨⟨_, (), rfl, e9, by rw [ht]; exact hP, va_K.moved hW.alike hK, hD⟩, hS.F ht⟩) hS.2.2 dL_rides_704
              · replace hR := it_t hR c696
                refine lv_iconst (v := 1) hx hb dL_rides_699 ic_1 ?_
                refine lv_goto (tgt := 704) hx hb dL_rides_700 (by decide) ?_
                replace hR := Option.some.inj hR
                obtain ⟨e9, hR⟩ := Prod.mk.inj hR
                obtain ⟨eu2, hR⟩ := Prod.mk.inj hR
                obtain ⟨eu3, hR⟩ := Prod.mk.inj hR
                obtain ⟨eu4, hR⟩ := Prod.mk.inj hR
                obtain ⟨eu5, hR⟩ := Prod.mk.inj hR
                obtain ⟨eu6, hR⟩ := Prod.mk.inj hR
                have eu7 := hR
                replace hP : va_P (dC, dI) vwCl (fl [[(b1, .inl (cs 0, 8, .inl S1))], [(b2, .inl (cs 0, 24, .inl u2))], [(b3, .inl (cs 0, 48, .inl u3))], [(b4, .inl (cs 0, 48, .inl u4))], [(b5, .inl (cs 0, 40, .inl u5))], [(b6, .inl (cs 0, 32, .inl u6))], (w_X10 ad (0) cs en u7)]) H684 := by rw [← eu2, ← eu3, ← eu4, ← eu5, ← eu6, ← eu7]; exact hP
                replace hD : va_D A (fl [[(b1, .inl (cs 0, 8, .inl S1))], [(b2, .inl (cs 0, 24, .inl u2))], [(b3, .inl (cs 0, 48, .inl u3))], [(b4, .inl (cs 0, 48, .inl u4))], [(b5, .inl (cs 0, 40, .inl u5))], [(b6, .inl (cs 0, 32, .inl u6))], (w_X10 ad (0) cs en u7)]) := by rw [← eu2, ← eu3, ← eu4, ← eu5, ← eu6, ← eu7]; exact hD
                exact W.zret (ty := .boolean) hx hb hr (by decide) (fun t ht hW => ⟨⟨_, (), rfl, e9, by rw [ht]; exact hP, va_K.moved hW.alike hK, hD⟩, hS.F ht⟩) hS.2.2 dL_rides_704
            · replace hR := it_t hR c627
              exact hB630 S2 S3 S4 S5 S6 S7 x6 x17 H606 _ ls hR hP hD hS (lv_sub hl [3, 2, 1] rfl)
      · replace hR := it_t hR c425
        refine lv_iload hx hb dL_rides_428 (lv_at hl 0 rfl) ?_
        refine lv_if_lt (tgt := 444) hx hb dL_rides_430 (by decide) (fun c430 => ?_) (fun c430 => ?_)
        · replace hR := it_t hR c430
          exact hB444 S2 S3 S4 S5 S6 S7 x6 x17 s.heap _ ls hR hP hD hS (lv_sub hl [3, 2, 1] rfl)
        · replace hR := it_f hR c430
          refine lv_aload_n hx hb dL_rides_433 rfl (lv_at hl 4 rfl) ?_
          refine lv_aload_n hx hb dL_rides_434 rfl (lv_at hl 5 rfl) ?_
          refine lv_aload_n hx hb dL_rides_435 rfl (lv_at hl 6 rfl) ?_
          refine lv_iload hx hb dL_rides_436 (lv_at hl 1 rfl) ?_
          replace hR := bd_e hR
          obtain ⟨q438, gq438, hR⟩ := hR
          refine cm_Si (As := [.ref b1, .ref b2, .ref b3, .int x17]) (rest := []) (L := [[(b1, .inl (cs 0, 8, .inl S1))], [(b2, .inl (cs 0, 24, .inl S2))], [(b3, .inl (cs 0, 48, .inl S3))], [(b4, .inl (cs 0, 48, .inl S4))], [(b5, .inl (cs 0, 40, .inl S5))], [(b6, .inl (cs 0, 32, .inl S6))], (w_X10 ad (0) cs en S7)]) (L' := [[(b1, .inl (cs 0, 8, .inl S1))], [(b2, .inl (cs 0, 24, .inl S2))], [(b3, .inl (cs 0, 48, .inl S3))], [(b4, .inl (cs 0, 48, .inl S4))], [(b5, .inl (cs 0, 40, .inl S5))], [(b6, .inl (cs 0, 32, .inl S6))], (w_X10 ad (0) cs en S7)]) (Wc := [[(b1, .inl (cs 0, 8, .inl S1))], [(b2, .inl (cs 0, 24, .inl S2))], [(b3, .inl (cs 0, 48, .inl S3))]]) (Wc' := [[(b1, .inl (cs 0, 8, .inl S1))], [(b2, .inl (cs 0, 24, .inl S2))], [(b3, .inl (cs 0, 48, .inl S3))]]) (is := [0, 1, 2]) (js := [3, 4, 5, 6]) ⟨hx, hb, hml, hown, hts⟩ (k_L_free l dC dI cs ad (b1) (b2) (b3) s.heap.size S1 S2 S3 x17 q438 gq438) (va_cwS 4 hts gL_rides_L_free rfl rfl rfl cd_L_free.2 ⟨Nat.le_of_ble_eq_true rfl, Nat.le_of_ble_eq_true rfl⟩) hK hP hD hS hA ⟨rfl, rfl, rfl, rfl, rfl, rfl⟩ (jn_nd (is := [0, 1, 2]) hD rfl rfl) rfl rfl hl.1 (Nat.le_of_ble_eq_true rfl) dL_rides_438 ⟨Nat.le_of_ble_eq_true rfl, Nat.le_of_ble_eq_true rfl⟩ (fun H438 locs438 hP' hD' hS' => ?_)
          replace hS := hS'
          replace hP : va_P (dC, dI) vwCl (fl [[(b1, .inl (cs 0, 8, .inl S1))], [(b2, .inl (cs 0, 24, .inl S2))], [(b3, .inl (cs 0, 48, .inl S3))], [(b4, .inl (cs 0, 48, .inl S4))], [(b5, .inl (cs 0, 40, .inl S5))], [(b6, .inl (cs 0, 32, .inl S6))], (w_X10 ad (0) cs en S7)]) H438 := hP'
          replace hD : va_D A (fl [[(b1, .inl (cs 0, 8, .inl S1))], [(b2, .inl (cs 0, 24, .inl S2))], [(b3, .inl (cs 0, 48, .inl S3))], [(b4, .inl (cs 0, 48, .inl S4))], [(b5, .inl (cs 0, 40, .inl S5))], [(b6, .inl (cs 0, 32, .inl S6))], (w_X10 ad (0) cs en S7)]) := hD'
          clear hP' hD' hS'
          refine lv_if_ne (tgt := 463) hx hb dL_rides_441 (by decide) (fun c441 => ?_) (fun c441 => ?_)
          · replace hR := it_f hR c441
            refine lv_aload_n hx hb dL_rides_463 rfl (lv_at hl 4 rfl) ?_
            refine lv_aload hx hb dL_rides_464 (lv_at hl 8 rfl) ?_
            refine lv_aload hx hb dL_rides_466 (lv_at hl 9 rfl) ?_
            refine lv_iload hx hb dL_rides_468 (lv_at hl 2 rfl) ?_
            replace hR := bd_e hR
            obtain ⟨q470, gq470, hR⟩ := hR
            refine cm_Si (As := [.ref b1, .ref b5, .ref b6, .int x6]) (rest := []) (L := [[(b1, .inl (cs 0, 8, .inl S1))], [(b2, .inl (cs 0, 24, .inl S2))], [(b3, .inl (cs 0, 48, .inl S3))], [(b4, .inl (cs 0, 48, .inl S4))], [(b5, .inl (cs 0, 40, .inl S5))], [(b6, .inl (cs 0, 32, .inl S6))], (w_X10 ad (0) cs en S7)]) (L' := [[(b1, .inl (cs 0, 8, .inl S1))], [(b2, .inl (cs 0, 24, .inl S2))], [(b3, .inl (cs 0, 48, .inl S3))], [(b4, .inl (cs 0, 48, .inl S4))], [(b5, .inl (cs 0, 40, .inl S5))], [(b6, .inl (cs 0, 32, .inl S6))], (w_X10 ad (0) cs en S7)]) (Wc := [[(b1, .inl (cs 0, 8, .inl S1))], [(b5, .inl (cs 0, 40, .inl S5))], [(b6, .inl (cs 0, 32, .inl S6))]]) (Wc' := [[(b1, .inl (cs 0, 8, .inl S1))], [(b5, .inl (cs 0, 40, .inl S5))], [(b6, .inl (cs 0, 32, .inl S6))]]) (is := [0, 4, 5]) (js := [1, 2, 3, 6]) ⟨hx, hb, hml, hown, hts⟩ (k_L_fee l dC dI cs ad (b1) (b5) (b6) H438.size S1 S5 S6 x6 q470 gq470) (va_cwS 4 hts gL_rides_L_fee rfl rfl rfl cd_L_fee.2 ⟨Nat.le_of_ble_eq_true rfl, Nat.le_of_ble_eq_true rfl⟩) hK hP hD hS hA ⟨rfl, rfl, rfl, rfl, rfl, rfl⟩ (jn_nd (is := [0, 4, 5]) hD rfl rfl) rfl rfl hl.1 (Nat.le_of_ble_eq_true rfl) dL_rides_470 ⟨Nat.le_of_ble_eq_true rfl, Nat.le_of_ble_eq_true rfl⟩ (fun H470 locs470 hP' hD' hS' => ?_)
            replace hS := hS'
            replace hP : va_P (dC, dI) vwCl (fl [[(b1, .inl (cs 0, 8, .inl S1))], [(b2, .inl (cs 0, 24, .inl S2))], [(b3, .inl (cs 0, 48, .inl S3))], [(b4, .inl (cs 0, 48, .inl S4))], [(b5, .inl (cs 0, 40, .inl S5))], [(b6, .inl (cs 0, 32, .inl S6))], (w_X10 ad (0) cs en S7)]) H470 := hP'
            replace hD : va_D A (fl [[(b1, .inl (cs 0, 8, .inl S1))], [(b2, .inl (cs 0, 24, .inl S2))], [(b3, .inl (cs 0, 48, .inl S3))], [(b4, .inl (cs 0, 48, .inl S4))], [(b5, .inl (cs 0, 40, .inl S5))], [(b6, .inl (cs 0, 32, .inl S6))], (w_X10 ad (0) cs en S7)]) := hD'
            clear hP' hD' hS'
            refine lv_istore (lv' := [(12, .int q470), (11, .int (S5  (((5 : Int32) * x6) + 2).toNatClampNeg)), (10, .int x17), (9, .int x6), (0, .ref (ad 0)), (1, .ref b1), (2, .ref b2), (3, .ref b3), (4, .ref b4), (5, .ref b5), (6, .ref b6), (7, .int p7), (8, .int p8)]) hx hb dL_rides_473 hl (Nat.le_of_ble_eq_true rfl) rfl (fun ls hl => ?_)
            refine lv_aload_n hx hb dL_rides_475 rfl (lv_at hl 7 rfl) ?_
            refine lv_iconst (v := 3) hx hb dL_rides_476 ic_3 ?_
            refine lv_iload hx hb dL_rides_477 (lv_at hl 1 rfl) ?_
            refine lv_imul hx hb dL_rides_479 ?_
            refine lv_iconst (v := 0) hx hb dL_rides_480 ic_0 ?_
            replace hR := gi_e hR
            obtain ⟨i481, hR⟩ := hR
            refine va_iast hx hb hK hP hD hS 2 0 rfl rfl i481 dL_rides_481 (fun H481 locs481 hP' hD' hS' => ?_)
            replace hS := hS'
            have hP' : va_P (dC, dI) vwCl (fl [[(b1, .inl (cs 0, 8, .inl S1))], [(b2, .inl (cs 0, 24, .inl S2))], [(b3, .inl (cs 0, 48, .inl (sU S3 ((3 : Int32) * (S5  (((5 : Int32) * x6) + 2).toNatClampNeg)).toNatClampNeg (0 : Int32))))], [(b4, .inl (cs 0, 48, .inl S4))], [(b5, .inl (cs 0, 40, .inl S5))], [(b6, .inl (cs 0, 32, .inl S6))], (w_X10 ad (0) cs en S7)]) H481 := hP'
            have hD' : va_D A (fl [[(b1, .inl (cs 0, 8, .inl S1))], [(b2, .inl (cs 0, 24, .inl S2))], [(b3, .inl (cs 0, 48, .inl (sU S3 ((3 : Int32) * (S5  (((5 : Int32) * x6) + 2).toNatClampNeg)).toNatClampNeg (0 : Int32))))], [(b4, .inl (cs 0, 48, .inl S4))], [(b5, .inl (cs 0, 40, .inl S5))], [(b6, .inl (cs 0, 32, .inl S6))], (w_X10 ad (0) cs en S7)]) := hD'
            replace hR := bn_e hR
            obtain ⟨S3_481, eS3_481, hR⟩ := hR
            replace hP : va_P (dC, dI) vwCl (fl [[(b1, .inl (cs 0, 8, .inl S1))], [(b2, .inl (cs 0, 24, .inl S2))], [(b3, .inl (cs 0, 48, .inl S3_481))], [(b4, .inl (cs 0, 48, .inl S4))], [(b5, .inl (cs 0, 40, .inl S5))], [(b6, .inl (cs 0, 32, .inl S6))], (w_X10 ad (0) cs en S7)]) H481 := by rw [eS3_481]; exact hP'
            replace hD : va_D A (fl [[(b1, .inl (cs 0, 8, .inl S1))], [(b2, .inl (cs 0, 24, .inl S2))], [(b3, .inl (cs 0, 48, .inl S3_481))], [(b4, .inl (cs 0, 48, .inl S4))], [(b5, .inl (cs 0, 40, .inl S5))], [(b6, .inl (cs 0, 32, .inl S6))], (w_X10 ad (0) cs en S7)]) := by rw [eS3_481]; exact hD'
            clear hP' hD' hS'
            refine lv_aload_n hx hb dL_rides_482 rfl (lv_at hl 7 rfl) ?_
            refine lv_iconst (v := 3) hx hb dL_rides_483 ic_3 ?_
            refine lv_iload hx hb dL_rides_484 (lv_at hl 1 rfl) ?_
            refine lv_imul hx hb dL_rides_486 ?_
            refine lv_iconst (v := 1) hx hb dL_rides_487 ic_1 ?_
            refine lv_iadd hx hb dL_rides_488 ?_
            refine lv_iload hx hb dL_rides_489 (lv_at hl 2 rfl) ?_
            replace hR := gi_e hR
            obtain ⟨i491, hR⟩ := hR
            refine va_iast hx hb hK hP hD hS 2 0 rfl rfl i491 dL_rides_491 (fun H491 locs491 hP' hD' hS' => ?_)
            replace hS := hS'
            have hP' : va_P (dC, dI) vwCl (fl [[(b1, .inl (cs 0, 8, .inl S1))], [(b2, .inl (cs 0, 24, .inl S2))], [(b3, .inl (cs 0, 48, .inl (sU S3_481 (((3 : Int32) * (S5  (((5 : Int32) * x6) + 2).toNatClampNeg)) + 1).toNatClampNeg x17)))], [(b4, .inl (cs 0, 48, .inl S4))], [(b5, .inl (cs 0, 40, .inl S5))], [(b6, .inl (cs 0, 32, .inl S6))], (w_X10 ad (0) cs en S7)]) H491 := hP'
            have hD' : va_D A (fl [[(b1, .inl (cs 0, 8, .inl S1))], [(b2, .inl (cs 0, 24, .inl S2))], [(b3, .inl (cs 0, 48, .inl (sU S3_481 (((3 : Int32) * (S5  (((5 : Int32) * x6) + 2).toNatClampNeg)) + 1).toNatClampNeg x17)))], [(b4, .inl (cs 0, 48, .inl S4))], [(b5, .inl (cs 0, 40, .inl S5))], [(b6, .inl (cs 0, 32, .inl S6))], (w_X10 ad (0) cs en S7)]) := hD'
            replace hR := bn_e hR
            obtain ⟨S3_491, eS3_491, hR⟩ := hR
            replace hP : va_P (dC, dI) vwCl (fl [[(b1, .inl (cs 0, 8, .inl S1))], [(b2, .inl (cs 0, 24, .inl S2))], [(b3, .inl (cs 0, 48, .inl S3_491))], [(b4, .inl (cs 0, 48, .inl S4))], [(b5, .inl (cs 0, 40, .inl S5))], [(b6, .inl (cs 0, 32, .inl S6))], (w_X10 ad (0) cs en S7)]) H491 := by rw [eS3_491]; exact hP'
            replace hD : va_D A (fl [[(b1, .inl (cs 0, 8, .inl S1))], [(b2, .inl (cs 0, 24, .inl S2))], [(b3, .inl (cs 0, 48, .inl S3_491))], [(b4, .inl (cs 0, 48, .inl S4))], [(b5, .inl (cs 0, 40, .inl S5))], [(b6, .inl (cs 0, 32, .inl S6))], (w_X10 ad (0) cs en S7)]) := by rw [eS3_491]; exact hD'
            clear hP' hD' hS'
            refine lv_aload_n hx hb dL_rides_492 rfl (lv_at hl 7 rfl) ?_
            refine lv_iconst (v := 3) hx hb dL_rides_493 ic_3 ?_
            refine lv_iload hx hb dL_rides_494 (lv_at hl 1 rfl) ?_
            refine lv_imul hx hb dL_rides_496 ?_
            refine lv_iconst (v := 2) hx hb dL_rides_497 ic_2 ?_
            refine lv_iadd hx hb dL_rides_498 ?_
            refine lv_dup2_11 hx hb dL_rides_499 rfl rfl ?_
            replace hR := gi_e hR
            obtain ⟨i500, hR⟩ := hR
            refine va_iald hx hb hK hP 2 0 rfl rfl i500 dL_rides_500 ?_
            refine lv_aload_n hx hb dL_rides_501 rfl (lv_at hl 5 rfl) ?_
            refine lv_iconst (v := 4) hx hb dL_rides_502 ic_4 ?_
            refine va_iald hx hb hK hP 0 0 rfl rfl vi_4_8 dL_rides_503 ?_
            refine lv_aload hx hb dL_rides_504 (lv_at hl 9 rfl) ?_
            refine lv_iconst (v := 5) hx hb dL_rides_506 ic_5 ?_
            refine lv_iload hx hb dL_rides_507 (lv_at hl 3 rfl) ?_
            refine lv_imul hx hb dL_rides_509 ?_
            refine lv_iconst (v := 3) hx hb dL_rides_510 ic_3 ?_
            refine lv_iadd hx hb dL_rides_511 ?_
            replace hR := gi_e hR
            obtain ⟨i512, hR⟩ := hR
            refine va_iald hx hb hK hP 4 0 rfl rfl i512 dL_rides_512 ?_
            refine lv_isub hx hb dL_rides_513 ?_
            refine lv_iadd hx hb dL_rides_514 ?_
            replace hR := gi_e hR
            obtain ⟨i515, hR⟩ := hR
            refine va_iast hx hb hK hP hD hS 2 0 rfl rfl i515 dL_rides_515 (fun H515 locs515 hP' hD' hS' => ?_)
            replace hS := hS'
            have hP' : va_P (dC, dI) vwCl (fl [[(b1, .inl (cs 0, 8, .inl S1))], [(b2, .inl (cs 0, 24, .inl S2))], [(b3, .inl (cs 0, 48, .inl (sU S3_491 (((3 : Int32) * (S5  (((5 : Int32) * x6) + 2).toNatClampNeg)) + 2).toNatClampNeg ((S3_491  (((3 : Int32) * (S5  (((5 : Int32) * x6) + 2).toNatClampNeg)) + 2).toNatClampNeg) + ((S1  (4 : Int32).toNatClampNeg) - (S5  (((5 : Int32) * x6) + 3).toNatClampNeg))))))], [(b4, .inl (cs 0, 48, .inl S4))], [(b5, .inl (cs 0, 40, .inl S5))], [(b6, .inl (cs 0, 32, .inl S6))], (w_X10 ad (0) cs en S7)]) H515 := hP'
            have hD' : va_D A (fl [[(b1, .inl (cs 0, 8, .inl S1))], [(b2, .inl (cs 0, 24, .inl S2))], [(b3, .inl (cs 0, 48, .inl (sU S3_491 (((3 : Int32) * (S5  (((5 : Int32) * x6) + 2).toNatClampNeg)) + 2).toNatClampNeg ((S3_491  (((3 : Int32) * (S5  (((5 : Int32) * x6) + 2).toNatClampNeg)) + 2).toNatClampNeg) + ((S1  (4 : Int32).toNatClampNeg) - (S5  (((5 : Int32) * x6) + 3).toNatClampNeg))))))], [(b4, .inl (cs 0, 48, .inl S4))], [(b5, .inl (cs 0, 40, .inl S5))], [(b6, .inl (cs 0, 32, .inl S6))], (w_X10 ad (0) cs en S7)]) := hD'
            replace hR := bn_e hR
            obtain ⟨S3_515, eS3_515, hR⟩ := hR
            replace hP : va_P (dC, dI) vwCl (fl [[(b1, .inl (cs 0, 8, .inl S1))], [(b2, .inl (cs 0, 24, .inl S2))], [(b3, .inl (cs 0, 48, .inl S3_515))], [(b4, .inl (cs 0, 48, .inl S4))], [(b5, .inl (cs 0, 40, .inl S5))], [(b6, .inl (cs 0, 32, .inl S6))], (w_X10 ad (0) cs en S7)]) H515 := by rw [eS3_515]; exact hP'
            replace hD : va_D A (fl [[(b1, .inl (cs 0, 8, .inl S1))], [(b2, .inl (cs 0, 24, .inl S2))], [(b3, .inl (cs 0, 48, .inl S3_515))], [(b4, .inl (cs 0, 48, .inl S4))], [(b5, .inl (cs 0, 40, .inl S5))], [(b6, .inl (cs 0, 32, .inl S6))], (w_X10 ad (0) cs en S7)]) := by rw [eS3_515]; exact hD'
            clear hP' hD' hS'
            refine lv_aload hx hb dL_rides_516 (lv_at hl 8 rfl) ?_
            refine lv_iconst (v := 3) hx hb dL_rides_518 ic_3 ?_
            refine lv_iload hx hb dL_rides_519 (lv_at hl 1 rfl) ?_
            refine lv_imul hx hb dL_rides_521 ?_
            refine lv_iconst (v := 1) hx hb dL_rides_522 ic_1 ?_
            refine lv_iadd hx hb dL_rides_523 ?_
            refine lv_dup2_11 hx hb dL_rides_524 rfl rfl ?_
            replace hR := gi_e hR
            obtain ⟨i525, hR⟩ := hR
            refine va_iald hx hb hK hP 3 0 rfl rfl i525 dL_rides_525 ?_
            refine lv_iconst (v := 1) hx hb dL_rides_526 ic_1 ?_
            refine lv_iadd hx hb dL_rides_527 ?_
            replace hR := gi_e hR
            obtain ⟨i528, hR⟩ := hR
            refine va_iast hx hb hK hP hD hS 3 0 rfl rfl i528 dL_rides_528 (fun H528 locs528 hP' hD' hS' => ?_)
            replace hS := hS'
            have hP' : va_P (dC, dI) vwCl (fl [[(b1, .inl (cs 0, 8, .inl S1))], [(b2, .inl (cs 0, 24, .inl S2))], [(b3, .inl (cs 0, 48, .inl S3_515))], [(b4, .inl (cs 0, 48, .inl (sU S4 (((3 : Int32) * (S5  (((5 : Int32) * x6) + 2).toNatClampNeg)) + 1).toNatClampNeg ((S4  (((3 : Int32) * (S5  (((5 : Int32) * x6) + 2).toNatClampNeg)) + 1).toNatClampNeg) + 1))))], [(b5, .inl (cs 0, 40, .inl S5))], [(b6, .inl (cs 0, 32, .inl S6))], (w_X10 ad (0) cs en S7)]) H528 := hP'
            have hD' : va_D A (fl [[(b1, .inl (cs 0, 8, .inl S1))], [(b2, .inl (cs 0, 24, .inl S2))], [(b3, .inl (cs 0, 48, .inl S3_515))], [(b4, .inl (cs 0, 48, .inl (sU S4 (((3 : Int32) * (S5  (((5 : Int32) * x6) + 2).toNatClampNeg)) + 1).toNatClampNeg ((S4  (((3 : Int32) * (S5  (((5 : Int32) * x6) + 2).toNatClampNeg)) + 1).toNatClampNeg) + 1))))], [(b5, .inl (cs 0, 40, .inl S5))], [(b6, .inl (cs 0, 32, .inl S6))], (w_X10 ad (0) cs en S7)]) := hD'
            replace hR := bn_e hR
            obtain ⟨S4_528, eS4_528, hR⟩ := hR
            replace hP : va_P (dC, dI) vwCl (fl [[(b1, .inl (cs 0, 8, .inl S1))], [(b2, .inl (cs 0, 24, .inl S2))], [(b3, .inl (cs 0, 48, .inl S3_515))], [(b4, .inl (cs 0, 48, .inl S4_528))], [(b5, .inl (cs 0, 40, .inl S5))], [(b6, .inl (cs 0, 32, .inl S6))], (w_X10 ad (0) cs en S7)]) H528 := by rw [eS4_528]; exact hP'
            replace hD : va_D A (fl [[(b1, .inl (cs 0, 8, .inl S1))], [(b2, .inl (cs 0, 24, .inl S2))], [(b3, .inl (cs 0, 48, .inl S3_515))], [(b4, .inl (cs 0, 48, .inl S4_528))], [(b5, .inl (cs 0, 40, .inl S5))], [(b6, .inl (cs 0, 32, .inl S6))], (w_X10 ad (0) cs en S7)]) := by rw [eS4_528]; exact hD'
            clear hP' hD' hS'
            refine lv_aload hx hb dL_rides_529 (lv_at hl 9 rfl) ?_
            refine lv_iconst (v := 5) hx hb dL_rides_531 ic_5 ?_
            refine lv_iload hx hb dL_rides_532 (lv_at hl 3 rfl) ?_
            refine lv_imul hx hb dL_rides_534 ?_
            refine lv_dup2_11 hx hb dL_rides_535 rfl rfl ?_
            replace hR := gi_e hR
            obtain ⟨i536, hR⟩ := hR
            refine va_iald hx hb hK hP 4 0 rfl rfl i536 dL_rides_536 ?_
            refine lv_iload hx hb dL_rides_537 (lv_at hl 0 rfl) ?_
            refine lv_iadd hx hb dL_rides_539 ?_
            replace hR := gi_e hR
            obtain ⟨i540, hR⟩ := hR
            refine va_iast hx hb hK hP hD hS 4 0 rfl rfl i540 dL_rides_540 (fun H540 locs540 hP' hD' hS' => ?_)
            replace hS := hS'
            have hP' : va_P (dC, dI) vwCl (fl [[(b1, .inl (cs 0, 8, .inl S1))], [(b2, .inl (cs 0, 24, .inl S2))], [(b3, .inl (cs 0, 48, .inl S3_515))], [(b4, .inl (cs 0, 48, .inl S4_528))], [(b5, .inl (cs 0, 40, .inl (sU S5 ((5 : Int32) * x6).toNatClampNeg ((S5  ((5 : Int32) * x6).toNatClampNeg) + q470))))], [(b6, .inl (cs 0, 32, .inl S6))], (w_X10 ad (0) cs en S7)]) H540 := hP'
            have hD' : va_D A (fl [[(b1, .inl (cs 0, 8, .inl S1))], [(b2, .inl (cs 0, 24, .inl S2))], [(b3, .inl (cs 0, 48, .inl S3_515))], [(b4, .inl (cs 0, 48, .inl S4_528))], [(b5, .inl (cs 0, 40, .inl (sU S5 ((5 : Int32) * x6).toNatClampNeg ((S5  ((5 : Int32) * x6).toNatClampNeg) + q470))))], [(b6, .inl (cs 0, 32, .inl S6))], (w_X10 ad (0) cs en S7)]) := hD'
            replace hR := bn_e hR
            obtain ⟨S5_540, eS5_540, hR⟩ := hR
            replace hP : va_P (dC, dI) vwCl (fl [[(b1, .inl (cs 0, 8, .inl S1))], [(b2, .inl (cs 0, 24, .inl S2))], [(b3, .inl (cs 0, 48, .inl S3_515))], [(b4, .inl (cs 0, 48, .inl S4_528))], [(b5, .inl (cs 0, 40, .inl S5_540))], [(b6, .inl (cs 0, 32, .inl S6))], (w_X10 ad (0) cs en S7)]) H540 := by rw [eS5_540]; exact hP'
            replace hD : va_D A (fl [[(b1, .inl (cs 0, 8, .inl S1))], [(b2, .inl (cs 0, 24, .inl S2))], [(b3, .inl (cs 0, 48, .inl S3_515))], [(b4, .inl (cs 0, 48, .inl S4_528))], [(b5, .inl (cs 0, 40, .inl S5_540))], [(b6, .inl (cs 0, 32, .inl S6))], (w_X10 ad (0) cs en S7)]) := by rw [eS5_540]; exact hD'
            clear hP' hD' hS'
            refine lv_aload hx hb dL_rides_541 (lv_at hl 9 rfl) ?_
            refine lv_iconst (v := 5) hx hb dL_rides_543 ic_5 ?_
            refine lv_iload hx hb dL_rides_544 (lv_at hl 3 rfl) ?_
            refine lv_imul hx hb dL_rides_546 ?_
            refine lv_iconst (v := 2) hx hb dL_rides_547 ic_2 ?_
            refine lv_iadd hx hb dL_rides_548 ?_
            refine lv_bipush (v := (-4)) hx hb dL_rides_549 bp_m4 ?_
            replace hR := gi_e hR
            obtain ⟨i551, hR⟩ := hR
            refine va_iast hx hb hK hP hD hS 4 0 rfl rfl i551 dL_rides_551 (fun H551 locs551 hP' hD' hS' => ?_)
            replace hS := hS'
            have hP' : va_P (dC, dI) vwCl (fl [[(b1, .inl (cs 0, 8, .inl S1))], [(b2, .inl (cs 0, 24, .inl S2))], [(b3, .inl (cs 0, 48, .inl S3_515))], [(b4, .inl (cs 0, 48, .inl S4_528))], [(b5, .inl (cs 0, 40, .inl (sU S5_540 (((5 : Int32) * x6) + 2).toNatClampNeg (-4))))], [(b6, .inl (cs 0, 32, .inl S6))], (w_X10 ad (0) cs en S7)]) H551 := hP'
            have hD' : va_D A (fl [[(b1, .inl (cs 0, 8, .inl S1))], [(b2, .inl (cs 0, 24, .inl S2))], [(b3, .inl (cs 0, 48, .inl S3_515))], [(b4, .inl (cs 0, 48, .inl S4_528))], [(b5, .inl (cs 0, 40, .inl (sU S5_540 (((5 : Int32) * x6) + 2).toNatClampNeg (-4))))], [(b6, .inl (cs 0, 32, .inl S6))], (w_X10 ad (0) cs en S7)]) := hD'
            replace hR := bn_e hR
            obtain ⟨S5_551, eS5_551, hR⟩ := hR
            replace hP : va_P (dC, dI) vwCl (fl [[(b1, .inl (cs 0, 8, .inl S1))], [(b2, .inl (cs 0, 24, .inl S2))], [(b3, .inl (cs 0, 48, .inl S3_515))], [(b4, .inl (cs 0, 48, .inl S4_528))], [(b5, .inl (cs 0, 40, .inl S5_551))], [(b6, .inl (cs 0, 32, .inl S6))], (w_X10 ad (0) cs en S7)]) H551 := by rw [eS5_551]; exact hP'
            replace hD : va_D A (fl [[(b1, .inl (cs 0, 8, .inl S1))], [(b2, .inl (cs 0, 24, .inl S2))], [(b3, .inl (cs 0, 48, .inl S3_515))], [(b4, .inl (cs 0, 48, .inl S4_528))], [(b5, .inl (cs 0, 40, .inl S5_551))], [(b6, .inl (cs 0, 32, .inl S6))], (w_X10 ad (0) cs en S7)]) := by rw [eS5_551]; exact hD'
            clear hP' hD' hS'
            refine lv_aload hx hb dL_rides_552 (lv_at hl 10 rfl) ?_
            refine lv_iconst (v := 4) hx hb dL_rides_554 ic_4 ?_
            refine lv_iload hx hb dL_rides_555 (lv_at hl 3 rfl) ?_
            refine lv_imul hx hb dL_rides_557 ?_
            refine lv_iconst (v := 2) hx hb dL_rides_558 ic_2 ?_
            refine lv_iadd hx hb dL_rides_559 ?_
            refine lv_dup2_11 hx hb dL_rides_560 rfl rfl ?_
            replace hR := gi_e hR
            obtain ⟨i561, hR⟩ := hR
            refine va_iald hx hb hK hP 5 0 rfl rfl i561 dL_rides_561 ?_
            refine lv_iconst (v := 1) hx hb dL_rides_562 ic_1 ?_
            refine lv_iadd hx hb dL_rides_563 ?_
            replace hR := gi_e hR
            obtain ⟨i564, hR⟩ := hR
            refine va_iast hx hb hK hP hD hS 5 0 rfl rfl i564 dL_rides_564 (fun H564 locs564 hP' hD' hS' => ?_)
            replace hS := hS'
            have hP' : va_P (dC, dI) vwCl (fl [[(b1, .inl (cs 0, 8, .inl S1))], [(b2, .inl (cs 0, 24, .inl S2))], [(b3, .inl (cs 0, 48, .inl S3_515))], [(b4, .inl (cs 0, 48, .inl S4_528))], [(b5, .inl (cs 0, 40, .inl S5_551))], [(b6, .inl (cs 0, 32, .inl (sU S6 (((4 : Int32) * x6) + 2).toNatClampNeg ((S6  (((4 : Int32) * x6) + 2).toNatClampNeg) + 1))))], (w_X10 ad (0) cs en S7)]) H564 := hP'
            have hD' : va_D A (fl [[(b1, .inl (cs 0, 8, .inl S1))], [(b2, .inl (cs 0, 24, .inl S2))], [(b3, .inl (cs 0, 48, .inl S3_515))], [(b4, .inl (cs 0, 48, .inl S4_528))], [(b5, .inl (cs 0, 40, .inl S5_551))], [(b6, .inl (cs 0, 32, .inl (sU S6 (((4 : Int32) * x6) + 2).toNatClampNeg ((S6  (((4 : Int32) * x6) + 2).toNatClampNeg) + 1))))], (w_X10 ad (0) cs en S7)]) := hD'
            replace hR := bn_e hR
            obtain ⟨S6_564, eS6_564, hR⟩ := hR
            replace hP : va_P (dC, dI) vwCl (fl [[(b1, .inl (cs 0, 8, .inl S1))], [(b2, .inl (cs 0, 24, .inl S2))], [(b3, .inl (cs 0, 48, .inl S3_515))], [(b4, .inl (cs 0, 48, .inl S4_528))], [(b5, .inl (cs 0, 40, .inl S5_551))], [(b6, .inl (cs 0, 32, .inl S6_564))], (w_X10 ad (0) cs en S7)]) H564 := by rw [eS6_564]; exact hP'
            replace hD : va_D A (fl [[(b1, .inl (cs 0, 8, .inl S1))], [(b2, .inl (cs 0, 24, .inl S2))], [(b3, .inl (cs 0, 48, .inl S3_515))], [(b4, .inl (cs 0, 48, .inl S4_528))], [(b5, .inl (cs 0, 40, .inl S5_551))], [(b6, .inl (cs 0, 32, .inl S6_564))], (w_X10 ad (0) cs en S7)]) := by rw [eS6_564]; exact hD'
            clear hP' hD' hS'
            refine lv_aload_n hx hb dL_rides_565 rfl (lv_at hl 6 rfl) ?_
            refine lv_iconst (v := 4) hx hb dL_rides_566 ic_4 ?_
            refine lv_iload hx hb dL_rides_567 (lv_at hl 2 rfl) ?_
            refine lv_imul hx hb dL_rides_569 ?_
            refine lv_iconst (v := 3) hx hb dL_rides_570 ic_3 ?_
            refine lv_iadd hx hb dL_rides_571 ?_
            refine lv_dup2_11 hx hb dL_rides_572 rfl rfl ?_
            replace hR := gi_e hR
            obtain ⟨i573, hR⟩ := hR
            refine va_iald hx hb hK hP 1 0 rfl rfl i573 dL_rides_573 ?_
            refine lv_iconst (v := 1) hx hb dL_rides_574 ic_1 ?_
            refine lv_iadd hx hb dL_rides_575 ?_
            replace hR := gi_e hR
            obtain ⟨i576, hR⟩ := hR
            refine va_iast hx hb hK hP hD hS 1 0 rfl rfl i576 dL_rides_576 (fun H576 locs576 hP' hD' hS' => ?_)
            replace hS := hS'
            have hP' : va_P (dC, dI) vwCl (fl [[(b1, .inl (cs 0, 8, .inl S1))], [(b2, .inl (cs 0, 24, .inl (sU S2 (((4 : Int32) * x17) + 3).toNatClampNeg ((S2  (((4 : Int32) * x17) + 3).toNatClampNeg) + 1))))], [(b3, .inl (cs 0, 48, .inl S3_515))], [(b4, .inl (cs 0, 48, .inl S4_528))], [(b5, .inl (cs 0, 40, .inl S5_551))], [(b6, .inl (cs 0, 32, .inl S6_564))], (w_X10 ad (0) cs en S7)]) H576 := hP'
            have hD' : va_D A (fl [[(b1, .inl (cs 0, 8, .inl S1))], [(b2, .inl (cs 0, 24, .inl (sU S2 (((4 : Int32) * x17) + 3).toNatClampNeg ((S2  (((4 : Int32) * x17) + 3).toNatClampNeg) + 1))))], [(b3, .inl (cs 0, 48, .inl S3_515))], [(b4, .inl (cs 0, 48, .inl S4_528))], [(b5, .inl (cs 0, 40, .inl S5_551))], [(b6, .inl (cs 0, 32, .inl S6_564))], (w_X10 ad (0) cs en S7)]) := hD'
            replace hR := bn_e hR
            obtain ⟨S2_576, eS2_576, hR⟩ := hR
            replace hP : va_P (dC, dI) vwCl (fl [[(b1, .inl (cs 0, 8, .inl S1))], [(b2, .inl (cs 0, 24, .inl S2_576))], [(b3, .inl (cs 0, 48, .inl S3_515))], [(b4, .inl (cs 0, 48, .inl S4_528))], [(b5, .inl (cs 0, 40, .inl S5_551))], [(b6, .inl (cs 0, 32, .inl S6_564))], (w_X10 ad (0) cs en S7)]) H576 := by rw [eS2_576]; exact hP'
            replace hD : va_D A (fl [[(b1, .inl (cs 0, 8, .inl S1))], [(b2, .inl (cs 0, 24, .inl S2_576))], [(b3, .inl (cs 0, 48, .inl S3_515))], [(b4, .inl (cs 0, 48, .inl S4_528))], [(b5, .inl (cs 0, 40, .inl S5_551))], [(b6, .inl (cs 0, 32, .inl S6_564))], (w_X10 ad (0) cs en S7)]) := by rw [eS2_576]; exact hD'
            clear hP' hD' hS'
            refine lv_aload_n hx hb dL_rides_577 rfl (lv_at hl 4 rfl) ?_
            refine lv_iload hx hb dL_rides_578 (lv_at hl 3 rfl) ?_
            refine lv_iload hx hb dL_rides_580 (lv_at hl 2 rfl) ?_
            replace hR := bd_e hR
            obtain ⟨q582, gq582, hR⟩ := hR
            refine cm_Vi (As := [.int x6, .int x17]) (rest := []) (L := [[(b1, .inl (cs 0, 8, .inl S1))], [(b2, .inl (cs 0, 24, .inl S2_576))], [(b3, .inl (cs 0, 48, .inl S3_515))], [(b4, .inl (cs 0, 48, .inl S4_528))], [(b5, .inl (cs 0, 40, .inl S5_551))], [(b6, .inl (cs 0, 32, .inl S6_564))], (w_X10 ad (0) cs en S7)]) (L' := [[(b1, .inl (cs 0, 8, .inl S1))], [(b2, .inl (cs 0, 24, .inl S2_576))], [(b3, .inl (cs 0, 48, .inl S3_515))], [(b4, .inl (cs 0, 48, .inl S4_528))], [(b5, .inl (cs 0, 40, .inl S5_551))], [(b6, .inl (cs 0, 32, .inl S6_564))], (w_X10 ad (0) cs en q582.2)]) (Wc := [(w_X10 ad (0) cs en S7)]) (Wc' := [(w_X10 ad (0) cs en q582.2)]) (is := [6]) (js := [0, 1, 2, 3, 4, 5]) ⟨hx, hb, hml, hown, hts⟩ (k_X10_back l dC dI cs ad en H576.size S7 x6 x17 q582.1 q582.2 gq582) (cwV 2 hts gL_rides_X10_back rfl rfl rfl cd_X10_back ⟨Nat.le_of_ble_eq_true rfl, Nat.le_of_ble_eq_true rfl⟩) hK hP hD hS hA (jx_6 (w_X10_fst ad 0 cs en _ _)) (jn_nd (is := [6]) hD rfl rfl) 6 8 rfl rfl rfl rfl rfl hl.1 (Nat.le_of_ble_eq_true rfl) dL_rides_582 ⟨Nat.le_of_ble_eq_true rfl, Nat.le_of_ble_eq_true rfl⟩ (fun H582 locs582 hP' hD' hS' => ?_)
            replace hS := hS'
            replace hP : va_P (dC, dI) vwCl (fl [[(b1, .inl (cs 0, 8, .inl S1))], [(b2, .inl (cs 0, 24, .inl S2_576))], [(b3, .inl (cs 0, 48, .inl S3_515))], [(b4, .inl (cs 0, 48, .inl S4_528))], [(b5, .inl (cs 0, 40, .inl S5_551))], [(b6, .inl (cs 0, 32, .inl S6_564))], (w_X10 ad (0) cs en q582.2)]) H582 := hP'
            replace hD : va_D A (fl [[(b1, .inl (cs 0, 8, .inl S1))], [(b2, .inl (cs 0, 24, .inl S2_576))], [(b3, .inl (cs 0, 48, .inl S3_515))], [(b4, .inl (cs 0, 48, .inl S4_528))], [(b5, .inl (cs 0, 40, .inl S5_551))], [(b6, .inl (cs 0, 32, .inl S6_564))], (w_X10 ad (0) cs en q582.2)]) := hD'
            clear hP' hD' hS'
            refine lv_iload hx hb dL_rides_585 (lv_at hl 0 rfl) ?_
            refine lv_icmp_ne (tgt := 594) hx hb dL_rides_587 (by decide) (fun c587 => ?_) (fun c587 => ?_)
            · replace hR := it_f hR c587
              refine lv_iconst (v := 0) hx hb dL_rides_594 ic_0 ?_
              replace hR := Option.some.inj hR
              obtain ⟨e9, hR⟩ := Prod.mk.inj hR
              obtain ⟨eu2, hR⟩ := Prod.mk.inj hR
              obtain ⟨eu3, hR⟩ := Prod.mk.inj hR
              obtain ⟨eu4, hR⟩ := Prod.mk.inj hR
              obtain ⟨eu5, hR⟩ := Prod.mk.inj hR
              obtain ⟨eu6, hR⟩ := Prod.mk.inj hR
              have eu7 := hR
              replace hP : va_P (dC, dI) vwCl (fl [[(b1, .inl (cs 0, 8, .inl S1))], [(b2, .inl (cs 0, 24, .inl u2))], [(b3, .inl (cs 0, 48, .inl u3))], [(b4, .inl (cs 0, 48, .inl u4))], [(b5, .inl (cs 0, 40, .inl u5))], [(b6, .inl (cs 0, 32, .inl u6))], (w_X10 ad (0) cs en u7)]) H582 := by rw [← eu2, ← eu3, ← eu4, ← eu5, ← eu6, ← eu7]; exact hP
              replace hD : va_D A (fl [[(b1, .inl (cs 0, 8, .inl S1))], [(b2, .inl (cs 0, 24, .inl u2))], [(b3, .inl (cs 0, 48, .inl u3))], [(b4, .inl (cs 0, 48, .inl u4))], [(b5, .inl (cs 0, 40, .inl u5))], [(b6, .inl (cs 0, 32, .inl u6))], (w_X10 ad (0) cs en u7)]) := by rw [← eu2, ← eu3, ← eu4, ← eu5, ← eu6, ← eu7]; exact hD
              exact W.zret (ty := .boolean) hx hb hr (by decide) (fun t ht hW => ⟨⟨_, (), rfl, e9, by rw [ht]; exact hP, va_K.moved hW.alike hK, hD⟩, hS.F ht⟩) hS.2.2 dL_rides_595
            · replace hR := it_t hR c587
              refine lv_iconst (v := 1) hx hb dL_rides_590 ic_1 ?_
              refine lv_goto (tgt := 595) hx hb dL_rides_591 (by decide) ?_
              replace hR := Option.some.inj hR
              obtain ⟨e9, hR⟩ := Prod.mk.inj hR
              obtain ⟨eu2, hR⟩ := Prod.mk.inj hR
              obtain ⟨eu3, hR⟩ := Prod.mk.inj hR
              obtain ⟨eu4, hR⟩ := Prod.mk.inj hR
              obtain ⟨eu5, hR⟩ := Prod.mk.inj hR
              obtain ⟨eu6, hR⟩ := Prod.mk.inj hR
              have eu7 := hR
              replace hP : va_P (dC, dI) vwCl (fl [[(b1, .inl (cs 0, 8, .inl S1))], [(b2, .inl (cs 0, 24, .inl u2))], [(b3, .inl (cs 0, 48, .inl u3))], [(b4, .inl (cs 0, 48, .inl u4))], [(b5, .inl (cs 0, 40, .inl u5))], [(b6, .inl (cs 0, 32, .inl u6))], (w_X10 ad (0) cs en u7)]) H582 := by rw [← eu2, ← eu3, ← eu4, ← eu5, ← eu6, ← eu7]; exact hP
              replace hD : va_D A (fl [[(b1, .inl (cs 0, 8, .inl S1))], [(b2, .inl (cs 0, 24, .inl u2))], [(b3, .inl (cs 0, 48, .inl u3))], [(b4, .inl (cs 0, 48, .inl u4))], [(b5, .inl (cs 0, 40, .inl u5))], [(b6, .inl (cs 0, 32, .inl u6))], (w_X10 ad (0) cs en u7)]) := by rw [← eu2, ← eu3, ← eu4, ← eu5, ← eu6, ← eu7]; exact hD
              exact W.zret (ty := .boolean) hx hb hr (by decide) (fun t ht hW => ⟨⟨_, (), rfl, e9, by rw [ht]; exact hP, va_K.moved hW.alike hK, hD⟩, hS.F ht⟩) hS.2.2 dL_rides_595
          · replace hR := it_t hR c441
            exact hB444 S2 S3 S4 S5 S6 S7 x6 x17 H438 _ ls hR hP hD hS (lv_sub hl [3, 2, 1] rfl)
    · replace hR := it_t hR c157
      refine lv_iconst (v := (-1)) hx hb dL_rides_160 ic_m1 ?_
      refine lv_istore (lv' := [(12, .int (-1)), (11, .int (S5  (((5 : Int32) * x6) + 2).toNatClampNeg)), (10, .int x17), (9, .int x6), (0, .ref (ad 0)), (1, .ref b1), (2, .ref b2), (3, .ref b3), (4, .ref b4), (5, .ref b5), (6, .ref b6), (7, .int p7), (8, .int p8)]) hx hb dL_rides_161 hl (Nat.le_of_ble_eq_true rfl) rfl (fun ls hl => ?_)
      refine lv_aload_n hx hb dL_rides_163 rfl (lv_at hl 5 rfl) ?_
      refine lv_iconst (v := 1) hx hb dL_rides_164 ic_1 ?_
      refine va_iald hx hb hK hP 0 0 rfl rfl vi_1_8 dL_rides_165 ?_
      refine lv_iconst (v := 1) hx hb dL_rides_166 ic_1 ?_
      refine lv_isub hx hb dL_rides_167 ?_
      refine lv_istore (lv' := [(13, .int ((S1  (1 : Int32).toNatClampNeg) - 1)), (12, .int (-1)), (11, .int (S5  (((5 : Int32) * x6) + 2).toNatClampNeg)), (10, .int x17), (9, .int x6), (0, .ref (ad 0)), (1, .ref b1), (2, .ref b2), (3, .ref b3), (4, .ref b4), (5, .ref b5), (6, .ref b6), (7, .int p7), (8, .int p8)]) hx hb dL_rides_168 hl (Nat.le_of_ble_eq_true rfl) rfl (fun ls hl => ?_)
      exact hB170 fuel S2 S3 S4 S5 S6 S7 x6 x17 (S5  (((5 : Int32) * x6) + 2).toNatClampNeg) (-1) ((S1  (1 : Int32).toNatClampNeg) - 1) s.heap _ ls hR hP hD hS (lv_sub hl [5, 6, 7, 8, 9, 10, 11, 4, 3, 2, 1, 0] rfl)
  · replace hR := it_t hR c32
    refine lv_aload hx hb dL_rides_35 (lv_at hl 8 rfl) ?_
    refine lv_iconst (v := 5) hx hb dL_rides_37 ic_5 ?_
    refine lv_iload hx hb dL_rides_38 (lv_at hl 2 rfl) ?_
    refine lv_imul hx hb dL_rides_40 ?_
    refine lv_iconst (v := 1) hx hb dL_rides_41 ic_1 ?_
    refine lv_iadd hx hb dL_rides_42 ?_
    replace hR := gi_e hR
    obtain ⟨i43, hR⟩ := hR
    refine va_iald hx hb hK hP 4 0 rfl rfl i43 dL_rides_43 ?_
    refine lv_aload_n hx hb dL_rides_44 rfl (lv_at hl 4 rfl) ?_
    refine lv_iconst (v := 4) hx hb dL_rides_45 ic_4 ?_
    refine va_iald hx hb hK hP 0 0 rfl rfl vi_4_8 dL_rides_46 ?_
    refine lv_icmp_le (tgt := 62) hx hb dL_rides_47 (by decide) (fun c47 => ?_) (fun c47 => ?_)
    · replace hR := it_t hR c47
      refine lv_aload_n hx hb dL_rides_62 rfl (lv_at hl 4 rfl) ?_
      refine lv_iconst (v := 4) hx hb dL_rides_63 ic_4 ?_
      refine va_iald hx hb hK hP 0 0 rfl rfl vi_4_8 dL_rides_64 ?_
      exact hB65 S2 S3 S4 S5 S6 S7 x6 (S1  (4 : Int32).toNatClampNeg) s.heap _ ls hR hP hD hS (lv_sub hl [3, 4, 8, 9, 2] rfl)
    · replace hR := it_f hR c47
      refine lv_aload hx hb dL_rides_50 (lv_at hl 8 rfl) ?_
      refine lv_iconst (v := 5) hx hb dL_rides_52 ic_5 ?_
      refine lv_iload hx hb dL_rides_53 (lv_at hl 2 rfl) ?_
      refine lv_imul hx hb dL_rides_55 ?_
      refine lv_iconst (v := 1) hx hb dL_rides_56 ic_1 ?_
      refine lv_iadd hx hb dL_rides_57 ?_
      replace hR := gi_e hR
      obtain ⟨i58, hR⟩ := hR
      refine va_iald hx hb hK hP 4 0 rfl rfl i58 dL_rides_58 ?_
      refine lv_goto (tgt := 65) hx hb dL_rides_59 (by decide) ?_
      exact hB65 S2 S3 S4 S5 S6 S7 x6 (S5  (((5 : Int32) * x6) + 1).toNatClampNeg) s.heap _ ls hR hP hD hS (lv_sub hl [3, 4, 8, 9, 2] rfl)
