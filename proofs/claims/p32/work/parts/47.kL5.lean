set_option maxHeartbeats 8000000 in
set_option maxRecDepth 100000 in
theorem k_L_isSo (l : Launch) (dC : Nat → ClassId) (dI : Nat → Nat → Nat) (cs : Nat → ClassId) (ad : Nat → Nat) (en : Nat → Nat) (b1 b2 b3 b4 b5 b6 b7 : Nat) (sz : Nat) (S1 : T1) (S2 : T1) (S3 : T1) (S4 : T1) (S5 : T1) (S6 : T1) (S7 : T1) (S8 : T5) (r : Int32) (u8 : T5) (hR : fL_isSo S1 S2 S3 S4 S5 S6 S7 S8 = some (r, u8)) : Met l yL_isSo wsL_isSo ({ frames := 6, cells := 1, slots := 4, locals := 138 } : Room) (va_Pc [.ref (ad 0), .ref b1, .ref b2, .ref b3, .ref b4, .ref b5, .ref b6, .ref b7] (pW dC dI (tyL cs) (fl [[(b1, .inl (cs 0, 8, .inl S1))], [(b2, .inl (cs 0, 24, .inl S2))], [(b3, .inl (cs 0, 48, .inl S3))], [(b4, .inl (cs 0, 48, .inl S4))], [(b5, .inl (cs 0, 40, .inl S5))], [(b6, .inl (cs 0, 32, .inl S6))], [(b7, .inl (cs 0, 6, .inl S7))], (w_X10 ad (0) cs en S8)]) sz)) (QI dC dI (tyL cs) (va_A (fl [[(b1, .inl (cs 0, 8, .inl S1))], [(b2, .inl (cs 0, 24, .inl S2))], [(b3, .inl (cs 0, 48, .inl S3))], [(b4, .inl (cs 0, 48, .inl S4))], [(b5, .inl (cs 0, 40, .inl S5))], [(b6, .inl (cs 0, 32, .inl S6))], [(b7, .inl (cs 0, 6, .inl S7))], (w_X10 ad (0) cs en S8)]) sz) (fl [[(b1, .inl (cs 0, 8, .inl S1))], [(b2, .inl (cs 0, 24, .inl S2))], [(b3, .inl (cs 0, 48, .inl S3))], [(b4, .inl (cs 0, 48, .inl S4))], [(b5, .inl (cs 0, 40, .inl S5))], [(b6, .inl (cs 0, 32, .inl S6))], [(b7, .inl (cs 0, 6, .inl S7))], (w_X10 ad (0) cs en u8)]) r) 1 4 (va_A (fl [[(b1, .inl (cs 0, 8, .inl S1))], [(b2, .inl (cs 0, 24, .inl S2))], [(b3, .inl (cs 0, 48, .inl S3))], [(b4, .inl (cs 0, 48, .inl S4))], [(b5, .inl (cs 0, 40, .inl S5))], [(b6, .inl (cs 0, 32, .inl S6))], [(b7, .inl (cs 0, 6, .inl S7))], (w_X10 ad (0) cs en S8)]) sz) := by
  refine mt_ofC (own := RL) (cc := cL_isSo) (maxL := 13) (ret := (some .boolean)) (Qc := fun A => QI dC dI (tyL cs) A (fl [[(b1, .inl (cs 0, 8, .inl S1))], [(b2, .inl (cs 0, 24, .inl S2))], [(b3, .inl (cs 0, 48, .inl S3))], [(b4, .inl (cs 0, 48, .inl S4))], [(b5, .inl (cs 0, 40, .inl S5))], [(b6, .inl (cs 0, 32, .inl S6))], [(b7, .inl (cs 0, 6, .inl S7))], (w_X10 ad (0) cs en u8)]) r) rfl (by decide) rfl (Nat.le_of_ble_eq_true rfl) (fun p e s m below meth c A ls hsz hx hb hr hts hown hlocks hml hA hK hP hD hS hl => ?_)
  subst hsz
  have hl : lv_has ls 13 [(0, .ref (ad 0)), (1, .ref b1), (2, .ref b2), (3, .ref b3), (4, .ref b4), (5, .ref b5), (6, .ref b6), (7, .ref b7)] := hl
  have hB475 : ∀ (S8_475h : T5) (v8_475 : Int32) (v9_475 : Int32) (H : Heap) (locs : List Loc) (ls : Array Slot), fL_isSo_475 S1 S2 S3 S4 S5 S6 S7 S8_475h v8_475 v9_475 = some (r, u8) → va_P (dC, dI) vwCl (fl [[(b1, .inl (cs 0, 8, .inl S1))], [(b2, .inl (cs 0, 24, .inl S2))], [(b3, .inl (cs 0, 48, .inl S3))], [(b4, .inl (cs 0, 48, .inl S4))], [(b5, .inl (cs 0, 40, .inl S5))], [(b6, .inl (cs 0, 32, .inl S6))], [(b7, .inl (cs 0, 6, .inl S7))], (w_X10 ad (0) cs en S8_475h)]) H → va_D A (fl [[(b1, .inl (cs 0, 8, .inl S1))], [(b2, .inl (cs 0, 24, .inl S2))], [(b3, .inl (cs 0, 48, .inl S3))], [(b4, .inl (cs 0, 48, .inl S4))], [(b5, .inl (cs 0, 40, .inl S5))], [(b6, .inl (cs 0, 32, .inl S6))], [(b7, .inl (cs 0, 6, .inl S7))], (w_X10 ad (0) cs en S8_475h)]) → va_S A s.heap H locs → lv_has ls 13 [(0, .ref (ad 0)), (1, .ref b1), (8, .int v8_475), (9, .int v9_475)] → W p l e (headSpec wsL_isSo ({ frames := 6, cells := 1, slots := 4, locals := 138 } : Room)).room s m ([.ref (ad 0), .ref b1, .ref b2, .ref b3, .ref b4, .ref b5, .ref b6, .ref b7] : List Value).toArray below meth c H locs 1 4 (MQ below (QI dC dI (tyL cs) A (fl [[(b1, .inl (cs 0, 8, .inl S1))], [(b2, .inl (cs 0, 24, .inl S2))], [(b3, .inl (cs 0, 48, .inl S3))], [(b4, .inl (cs 0, 48, .inl S4))], [(b5, .inl (cs 0, 40, .inl S5))], [(b6, .inl (cs 0, 32, .inl S6))], [(b7, .inl (cs 0, 6, .inl S7))], (w_X10 ad (0) cs en u8)]) r) ([.ref (ad 0), .ref b1, .ref b2, .ref b3, .ref b4, .ref b5, .ref b6, .ref b7] : List Value).toArray s 1 4 A) (F0 m 475 ls []) := by
    intro S8_475h v8_475 v9_475 H locs ls hR hP hD hS hl
    refine lv_iload hx hb dL_isSo_475 (lv_at hl 2 rfl) ?_
    refine lv_if_eq (tgt := 542) hx hb dL_isSo_477 (by decide) (fun c477 => ?_) (fun c477 => ?_)
    · replace hR := it_t hR c477
      refine lv_iconst (v := 0) hx hb dL_isSo_542 ic_0 ?_
      replace hR := Option.some.inj hR
      obtain ⟨e9, hR⟩ := Prod.mk.inj hR
      have eu8 := hR
      replace hP : va_P (dC, dI) vwCl (fl [[(b1, .inl (cs 0, 8, .inl S1))], [(b2, .inl (cs 0, 24, .inl S2))], [(b3, .inl (cs 0, 48, .inl S3))], [(b4, .inl (cs 0, 48, .inl S4))], [(b5, .inl (cs 0, 40, .inl S5))], [(b6, .inl (cs 0, 32, .inl S6))], [(b7, .inl (cs 0, 6, .inl S7))], (w_X10 ad (0) cs en u8)]) H := by rw [← eu8]; exact hP
      replace hD : va_D A (fl [[(b1, .inl (cs 0, 8, .inl S1))], [(b2, .inl (cs 0, 24, .inl S2))], [(b3, .inl (cs 0, 48, .inl S3))], [(b4, .inl (cs 0, 48, .inl S4))], [(b5, .inl (cs 0, 40, .inl S5))], [(b6, .inl (cs 0, 32, .inl S6))], [(b7, .inl (cs 0, 6, .inl S7))], (w_X10 ad (0) cs en u8)]) := by rw [← eu8]; exact hD
      exact W.zret (ty := .boolean) hx hb hr (by decide) (fun t ht hW => ⟨⟨_, (), rfl, e9, by rw [ht]; exact hP, va_K.moved hW.alike hK, hD⟩, hS.F ht⟩) hS.2.2 dL_isSo_543
    · replace hR := it_f hR c477
      refine lv_aload_n hx hb dL_isSo_480 rfl (lv_at hl 0 rfl) ?_
      refine lv_bipush (v := 10) hx hb dL_isSo_481 bp_10 ?_
      replace hR := bd_e hR
      obtain ⟨q483, gq483, hR⟩ := hR
      refine cm_Vi (As := [.int (10 : Int32)]) (rest := []) (L := [[(b1, .inl (cs 0, 8, .inl S1))], [(b2, .inl (cs 0, 24, .inl S2))], [(b3, .inl (cs 0, 48, .inl S3))], [(b4, .inl (cs 0, 48, .inl S4))], [(b5, .inl (cs 0, 40, .inl S5))], [(b6, .inl (cs 0, 32, .inl S6))], [(b7, .inl (cs 0, 6, .inl S7))], (w_X10 ad (0) cs en S8_475h)]) (L' := [[(b1, .inl (cs 0, 8, .inl S1))], [(b2, .inl (cs 0, 24, .inl S2))], [(b3, .inl (cs 0, 48, .inl S3))], [(b4, .inl (cs 0, 48, .inl S4))], [(b5, .inl (cs 0, 40, .inl S5))], [(b6, .inl (cs 0, 32, .inl S6))], [(b7, .inl (cs 0, 6, .inl S7))], (w_X10 ad (0) cs en S8_475h)]) (Wc := [(w_X10 ad (0) cs en S8_475h)]) (Wc' := [(w_X10 ad (0) cs en S8_475h)]) (is := [7]) (js := [0, 1, 2, 3, 4, 5, 6]) ⟨hx, hb, hml, hown, hts⟩ (k_X10_count l dC dI cs ad en H.size S8_475h (10 : Int32) q483 gq483) (cwV 1 hts gL_isSo_X10_count rfl rfl rfl cd_X10_count ⟨Nat.le_of_ble_eq_true rfl, Nat.le_of_ble_eq_true rfl⟩) hK hP hD hS hA ⟨rfl, rfl, rfl, rfl, rfl, rfl⟩ (jn_nd (is := [7]) hD rfl rfl) 7 8 rfl rfl rfl rfl rfl hl.1 (Nat.le_of_ble_eq_true rfl) dL_isSo_483 ⟨Nat.le_of_ble_eq_true rfl, Nat.le_of_ble_eq_true rfl⟩ (fun H483 locs483 hP' hD' hS' => ?_)
      replace hS := hS'
      replace hP : va_P (dC, dI) vwCl (fl [[(b1, .inl (cs 0, 8, .inl S1))], [(b2, .inl (cs 0, 24, .inl S2))], [(b3, .inl (cs 0, 48, .inl S3))], [(b4, .inl (cs 0, 48, .inl S4))], [(b5, .inl (cs 0, 40, .inl S5))], [(b6, .inl (cs 0, 32, .inl S6))], [(b7, .inl (cs 0, 6, .inl S7))], (w_X10 ad (0) cs en S8_475h)]) H483 := hP'
      replace hD : va_D A (fl [[(b1, .inl (cs 0, 8, .inl S1))], [(b2, .inl (cs 0, 24, .inl S2))], [(b3, .inl (cs 0, 48, .inl S3))], [(b4, .inl (cs 0, 48, .inl S4))], [(b5, .inl (cs 0, 40, .inl S5))], [(b6, .inl (cs 0, 32, .inl S6))], [(b7, .inl (cs 0, 6, .inl S7))], (w_X10 ad (0) cs en S8_475h)]) := hD'
      clear hP' hD' hS'
      refine lv_iload hx hb dL_isSo_486 (lv_at hl 3 rfl) ?_
      refine lv_icmp_ne (tgt := 542) hx hb dL_isSo_488 (by decide) (fun c488 => ?_) (fun c488 => ?_)
      · replace hR := it_f hR c488
        refine lv_iconst (v := 0) hx hb dL_isSo_542 ic_0 ?_
        replace hR := Option.some.inj hR
        obtain ⟨e9, hR⟩ := Prod.mk.inj hR
        have eu8 := hR
        replace hP : va_P (dC, dI) vwCl (fl [[(b1, .inl (cs 0, 8, .inl S1))], [(b2, .inl (cs 0, 24, .inl S2))], [(b3, .inl (cs 0, 48, .inl S3))], [(b4, .inl (cs 0, 48, .inl S4))], [(b5, .inl (cs 0, 40, .inl S5))], [(b6, .inl (cs 0, 32, .inl S6))], [(b7, .inl (cs 0, 6, .inl S7))], (w_X10 ad (0) cs en u8)]) H483 := by rw [← eu8]; exact hP
        replace hD : va_D A (fl [[(b1, .inl (cs 0, 8, .inl S1))], [(b2, .inl (cs 0, 24, .inl S2))], [(b3, .inl (cs 0, 48, .inl S3))], [(b4, .inl (cs 0, 48, .inl S4))], [(b5, .inl (cs 0, 40, .inl S5))], [(b6, .inl (cs 0, 32, .inl S6))], [(b7, .inl (cs 0, 6, .inl S7))], (w_X10 ad (0) cs en u8)]) := by rw [← eu8]; exact hD
        exact W.zret (ty := .boolean) hx hb hr (by decide) (fun t ht hW => ⟨⟨_, (), rfl, e9, by rw [ht]; exact hP, va_K.moved hW.alike hK, hD⟩, hS.F ht⟩) hS.2.2 dL_isSo_543
      · replace hR := it_t hR c488
        refine lv_aload_n hx hb dL_isSo_491 rfl (lv_at hl 0 rfl) ?_
        refine lv_bipush (v := 14) hx hb dL_isSo_492 bp_14 ?_
        replace hR := bd_e hR
        obtain ⟨q494, gq494, hR⟩ := hR
        refine cm_Vi (As := [.int (14 : Int32)]) (rest := []) (L := [[(b1, .inl (cs 0, 8, .inl S1))], [(b2, .inl (cs 0, 24, .inl S2))], [(b3, .inl (cs 0, 48, .inl S3))], [(b4, .inl (cs 0, 48, .inl S4))], [(b5, .inl (cs 0, 40, .inl S5))], [(b6, .inl (cs 0, 32, .inl S6))], [(b7, .inl (cs 0, 6, .inl S7))], (w_X10 ad (0) cs en S8_475h)]) (L' := [[(b1, .inl (cs 0, 8, .inl S1))], [(b2, .inl (cs 0, 24, .inl S2))], [(b3, .inl (cs 0, 48, .inl S3))], [(b4, .inl (cs 0, 48, .inl S4))], [(b5, .inl (cs 0, 40, .inl S5))], [(b6, .inl (cs 0, 32, .inl S6))], [(b7, .inl (cs 0, 6, .inl S7))], (w_X10 ad (0) cs en S8_475h)]) (Wc := [(w_X10 ad (0) cs en S8_475h)]) (Wc' := [(w_X10 ad (0) cs en S8_475h)]) (is := [7]) (js := [0, 1, 2, 3, 4, 5, 6]) ⟨hx, hb, hml, hown, hts⟩ (k_X10_count l dC dI cs ad en H483.size S8_475h (14 : Int32) q494 gq494) (cwV 1 hts gL_isSo_X10_count rfl rfl rfl cd_X10_count ⟨Nat.le_of_ble_eq_true rfl, Nat.le_of_ble_eq_true rfl⟩) hK hP hD hS hA ⟨rfl, rfl, rfl, rfl, rfl, rfl⟩ (jn_nd (is := [7]) hD rfl rfl) 7 8 rfl rfl rfl rfl rfl hl.1 (Nat.le_of_ble_eq_true rfl) dL_isSo_494 ⟨Nat.le_of_ble_eq_true rfl, Nat.le_of_ble_eq_true rfl⟩ (fun H494 locs494 hP' hD' hS' => ?_)
        replace hS := hS'
        replace hP : va_P (dC, dI) vwCl (fl [[(b1, .inl (cs 0, 8, .inl S1))], [(b2, .inl (cs 0, 24, .inl S2))], [(b3, .inl (cs 0, 48, .inl S3))], [(b4, .inl (cs 0, 48, .inl S4))], [(b5, .inl (cs 0, 40, .inl S5))], [(b6, .inl (cs 0, 32, .inl S6))], [(b7, .inl (cs 0, 6, .inl S7))], (w_X10 ad (0) cs en S8_475h)]) H494 := hP'
        replace hD : va_D A (fl [[(b1, .inl (cs 0, 8, .inl S1))], [(b2, .inl (cs 0, 24, .inl S2))], [(b3, .inl (cs 0, 48, .inl S3))], [(b4, .inl (cs 0, 48, .inl S4))], [(b5, .inl (cs 0, 40, .inl S5))], [(b6, .inl (cs 0, 32, .inl S6))], [(b7, .inl (cs 0, 6, .inl S7))], (w_X10 ad (0) cs en S8_475h)]) := hD'
        clear hP' hD' hS'
        refine lv_if_ne (tgt := 542) hx hb dL_isSo_497 (by decide) (fun c497 => ?_) (fun c497 => ?_)
        · replace hR := it_f hR c497
          refine lv_iconst (v := 0) hx hb dL_isSo_542 ic_0 ?_
          replace hR := Option.some.inj hR
          obtain ⟨e9, hR⟩ := Prod.mk.inj hR
          have eu8 := hR
          replace hP : va_P (dC, dI) vwCl (fl [[(b1, .inl (cs 0, 8, .inl S1))], [(b2, .inl (cs 0, 24, .inl S2))], [(b3, .inl (cs 0, 48, .inl S3))], [(b4, .inl (cs 0, 48, .inl S4))], [(b5, .inl (cs 0, 40, .inl S5))], [(b6, .inl (cs 0, 32, .inl S6))], [(b7, .inl (cs 0, 6, .inl S7))], (w_X10 ad (0) cs en u8)]) H494 := by rw [← eu8]; exact hP
          replace hD : va_D A (fl [[(b1, .inl (cs 0, 8, .inl S1))], [(b2, .inl (cs 0, 24, .inl S2))], [(b3, .inl (cs 0, 48, .inl S3))], [(b4, .inl (cs 0, 48, .inl S4))], [(b5, .inl (cs 0, 40, .inl S5))], [(b6, .inl (cs 0, 32, .inl S6))], [(b7, .inl (cs 0, 6, .inl S7))], (w_X10 ad (0) cs en u8)]) := by rw [← eu8]; exact hD
          exact W.zret (ty := .boolean) hx hb hr (by decide) (fun t ht hW => ⟨⟨_, (), rfl, e9, by rw [ht]; exact hP, va_K.moved hW.alike hK, hD⟩, hS.F ht⟩) hS.2.2 dL_isSo_543
        · replace hR := it_t hR c497
          refine lv_aload_n hx hb dL_isSo_500 rfl (lv_at hl 0 rfl) ?_
          refine lv_bipush (v := 20) hx hb dL_isSo_501 bp_20 ?_
          replace hR := bd_e hR
          obtain ⟨q503, gq503, hR⟩ := hR
          refine cm_Vi (As := [.int (20 : Int32)]) (rest := []) (L := [[(b1, .inl (cs 0, 8, .inl S1))], [(b2, .inl (cs 0, 24, .inl S2))], [(b3, .inl (cs 0, 48, .inl S3))], [(b4, .inl (cs 0, 48, .inl S4))], [(b5, .inl (cs 0, 40, .inl S5))], [(b6, .inl (cs 0, 32, .inl S6))], [(b7, .inl (cs 0, 6, .inl S7))], (w_X10 ad (0) cs en S8_475h)]) (L' := [[(b1, .inl (cs 0, 8, .inl S1))], [(b2, .inl (cs 0, 24, .inl S2))], [(b3, .inl (cs 0, 48, .inl S3))], [(b4, .inl (cs 0, 48, .inl S4))], [(b5, .inl (cs 0, 40, .inl S5))], [(b6, .inl (cs 0, 32, .inl S6))], [(b7, .inl (cs 0, 6, .inl S7))], (w_X10 ad (0) cs en S8_475h)]) (Wc := [(w_X10 ad (0) cs en S8_475h)]) (Wc' := [(w_X10 ad (0) cs en S8_475h)]) (is := [7]) (js := [0, 1, 2, 3, 4, 5, 6]) ⟨hx, hb, hml, hown, hts⟩ (k_X10_count l dC dI cs ad en H494.size S8_475h (20 : Int32) q503 gq503) (cwV 1 hts gL_isSo_X10_count rfl rfl rfl cd_X10_count ⟨Nat.le_of_ble_eq_true rfl, Nat.le_of_ble_eq_true rfl⟩) hK hP hD hS hA ⟨rfl, rfl, rfl, rfl, rfl, rfl⟩ (jn_nd (is := [7]) hD rfl rfl) 7 8 rfl rfl rfl rfl rfl hl.1 (Nat.le_of_ble_eq_true rfl) dL_isSo_503 ⟨Nat.le_of_ble_eq_true rfl, Nat.le_of_ble_eq_true rfl⟩ (fun H503 locs503 hP' hD' hS' => ?_)
          replace hS := hS'
          replace hP : va_P (dC, dI) vwCl (fl [[(b1, .inl (cs 0, 8, .inl S1))], [(b2, .inl (cs 0, 24, .inl S2))], [(b3, .inl (cs 0, 48, .inl S3))], [(b4, .inl (cs 0, 48, .inl S4))], [(b5, .inl (cs 0, 40, .inl S5))], [(b6, .inl (cs 0, 32, .inl S6))], [(b7, .inl (cs 0, 6, .inl S7))], (w_X10 ad (0) cs en S8_475h)]) H503 := hP'
          replace hD : va_D A (fl [[(b1, .inl (cs 0, 8, .inl S1))], [(b2, .inl (cs 0, 24, .inl S2))], [(b3, .inl (cs 0, 48, .inl S3))], [(b4, .inl (cs 0, 48, .inl S4))], [(b5, .inl (cs 0, 40, .inl S5))], [(b6, .inl (cs 0, 32, .inl S6))], [(b7, .inl (cs 0, 6, .inl S7))], (w_X10 ad (0) cs en S8_475h)]) := hD'
          clear hP' hD' hS'
          refine lv_aload_n hx hb dL_isSo_506 rfl (lv_at hl 1 rfl) ?_
          refine lv_iconst (v := 5) hx hb dL_isSo_507 ic_5 ?_
          refine va_iald hx hb hK hP 0 0 rfl rfl vi_5_8 dL_isSo_508 ?_
          refine lv_icmp_ne (tgt := 542) hx hb dL_isSo_509 (by decide) (fun c509 => ?_) (fun c509 => ?_)
          · replace hR := it_f hR c509
            refine lv_iconst (v := 0) hx hb dL_isSo_542 ic_0 ?_
            replace hR := Option.some.inj hR
            obtain ⟨e9, hR⟩ := Prod.mk.inj hR
            have eu8 := hR
            replace hP : va_P (dC, dI) vwCl (fl [[(b1, .inl (cs 0, 8, .inl S1))], [(b2, .inl (cs 0, 24, .inl S2))], [(b3, .inl (cs 0, 48, .inl S3))], [(b4, .inl (cs 0, 48, .inl S4))], [(b5, .inl (cs 0, 40, .inl S5))], [(b6, .inl (cs 0, 32, .inl S6))], [(b7, .inl (cs 0, 6, .inl S7))], (w_X10 ad (0) cs en u8)]) H503 := by rw [← eu8]; exact hP
            replace hD : va_D A (fl [[(b1, .inl (cs 0, 8, .inl S1))], [(b2, .inl (cs 0, 24, .inl S2))], [(b3, .inl (cs 0, 48, .inl S3))], [(b4, .inl (cs 0, 48, .inl S4))], [(b5, .inl (cs 0, 40, .inl S5))], [(b6, .inl (cs 0, 32, .inl S6))], [(b7, .inl (cs 0, 6, .inl S7))], (w_X10 ad (0) cs en u8)]) := by rw [← eu8]; exact hD
            exact W.zret (ty := .boolean) hx hb hr (by decide) (fun t ht hW => ⟨⟨_, (), rfl, e9, by rw [ht]; exact hP, va_K.moved hW.alike hK, hD⟩, hS.F ht⟩) hS.2.2 dL_isSo_543
          · replace hR := it_t hR c509
            refine lv_aload_n hx hb dL_isSo_512 rfl (lv_at hl 0 rfl) ?_
            refine lv_bipush (v := 21) hx hb dL_isSo_513 bp_21 ?_
            replace hR := bd_e hR
            obtain ⟨q515, gq515, hR⟩ := hR
            refine cm_Vi (As := [.int (21 : Int32)]) (rest := []) (L := [[(b1, .inl (cs 0, 8, .inl S1))], [(b2, .inl (cs 0, 24, .inl S2))], [(b3, .inl (cs 0, 48, .inl S3))], [(b4, .inl (cs 0, 48, .inl S4))], [(b5, .inl (cs 0, 40, .inl S5))], [(b6, .inl (cs 0, 32, .inl S6))], [(b7, .inl (cs 0, 6, .inl S7))], (w_X10 ad (0) cs en S8_475h)]) (L' := [[(b1, .inl (cs 0, 8, .inl S1))], [(b2, .inl (cs 0, 24, .inl S2))], [(b3, .inl (cs 0, 48, .inl S3))], [(b4, .inl (cs 0, 48, .inl S4))], [(b5, .inl (cs 0, 40, .inl S5))], [(b6, .inl (cs 0, 32, .inl S6))], [(b7, .inl (cs 0, 6, .inl S7))], (w_X10 ad (0) cs en S8_475h)]) (Wc := [(w_X10 ad (0) cs en S8_475h)]) (Wc' := [(w_X10 ad (0) cs en S8_475h)]) (is := [7]) (js := [0, 1, 2, 3, 4, 5, 6]) ⟨hx, hb, hml, hown, hts⟩ (k_X10_count l dC dI cs ad en H503.size S8_475h (21 : Int32) q515 gq515) (cwV 1 hts gL_isSo_X10_count rfl rfl rfl cd_X10_count ⟨Nat.le_of_ble_eq_true rfl, Nat.le_of_ble_eq_true rfl⟩) hK hP hD hS hA ⟨rfl, rfl, rfl, rfl, rfl, rfl⟩ (jn_nd (is := [7]) hD rfl rfl) 7 8 rfl rfl rfl rfl rfl hl.1 (Nat.le_of_ble_eq_true rfl) dL_isSo_515 ⟨Nat.le_of_ble_eq_true rfl, Nat.le_of_ble_eq_true rfl⟩ (fun H515 locs515 hP' hD' hS' => ?_)
            replace hS := hS'
            replace hP : va_P (dC, dI) vwCl (fl [[(b1, .inl (cs 0, 8, .inl S1))], [(b2, .inl (cs 0, 24, .inl S2))], [(b3, .inl (cs 0, 48, .inl S3))], [(b4, .inl (cs 0, 48, .inl S4))], [(b5, .inl (cs 0, 40, .inl S5))], [(b6, .inl (cs 0, 32, .inl S6))], [(b7, .inl (cs 0, 6, .inl S7))], (w_X10 ad (0) cs en S8_475h)]) H515 := hP'
            replace hD : va_D A (fl [[(b1, .inl (cs 0, 8, .inl S1))], [(b2, .inl (cs 0, 24, .inl S2))], [(b3, .inl (cs 0, 48, .inl S3))], [(b4, .inl (cs 0, 48, .inl S4))], [(b5, .inl (cs 0, 40, .inl S5))], [(b6, .inl (cs 0, 32, .inl S6))], [(b7, .inl (cs 0, 6, .inl S7))], (w_X10 ad (0) cs en S8_475h)]) := hD'
            clear hP' hD' hS'
            refine lv_aload_n hx hb dL_isSo_518 rfl (lv_at hl 1 rfl) ?_
            refine lv_bipush (v := 6) hx hb dL_isSo_519 bp_6 ?_
            refine va_iald hx hb hK hP 0 0 rfl rfl vi_6_8 dL_isSo_521 ?_
            refine lv_icmp_ne (tgt := 542) hx hb dL_isSo_522 (by decide) (fun c522 => ?_) (fun c522 => ?_)
            · replace hR := it_f hR c522
              refine lv_iconst (v := 0) hx hb dL_isSo_542 ic_0 ?_
              replace hR := Option.some.inj hR
              obtain ⟨e9, hR⟩ := Prod.mk.inj hR
              have eu8 := hR
              replace hP : va_P (dC, dI) vwCl (fl [[(b1, .inl (cs 0, 8, .inl S1))], [(b2, .inl (cs 0, 24, .inl S2))], [(b3, .inl (cs 0, 48, .inl S3))], [(b4, .inl (cs 0, 48, .inl S4))], [(b5, .inl (cs 0, 40, .inl S5))], [(b6, .inl (cs 0, 32, .inl S6))], [(b7, .inl (cs 0, 6, .inl S7))], (w_X10 ad (0) cs en u8)]) H515 := by rw [← eu8]; exact hP
              replace hD : va_D A (fl [[(b1, .inl (cs 0, 8, .inl S1))], [(b2, .inl (cs 0, 24, .inl S2))], [(b3, .inl (cs 0, 48, .inl S3))], [(b4, .inl (cs 0, 48, .inl S4))], [(b5, .inl (cs 0, 40, .inl S5))], [(b6, .inl (cs 0, 32, .inl S6))], [(b7, .inl (cs 0, 6, .inl S7))], (w_X10 ad (0) cs en u8)]) := by rw [← eu8]; exact hD
              exact W.zret (ty := .boolean) hx hb hr (by decide) (fun t ht hW => ⟨⟨_, (), rfl, e9, by rw [ht]; exact hP, va_K.moved hW.alike hK, hD⟩, hS.F ht⟩) hS.2.2 dL_isSo_543
            · replace hR := it_t hR c522
              refine lv_aload_n hx hb dL_isSo_525 rfl (lv_at hl 0 rfl) ?_
              refine lv_bipush (v := 22) hx hb dL_isSo_526 bp_22 ?_
              replace hR := bd_e hR
              obtain ⟨q528, gq528, hR⟩ := hR
              refine cm_Vi (As := [.int (22 : Int32)]) (rest := []) (L := [[(b1, .inl (cs 0, 8, .inl S1))], [(b2, .inl (cs 0, 24, .inl S2))], [(b3, .inl (cs 0, 48, .inl S3))], [(b4, .inl (cs 0, 48, .inl S4))], [(b5, .inl (cs 0, 40, .inl S5))], [(b6, .inl (cs 0, 32, .inl S6))], [(b7, .inl (cs 0, 6, .inl S7))], (w_X10 ad (0) cs en S8_475h)]) (L' := [[(b1, .inl (cs 0, 8, .inl S1))], [(b2, .inl (cs 0, 24, .inl S2))], [(b3, .inl (cs 0, 48, .inl S3))], [(b4, .inl (cs 0, 48, .inl S4))], [(b5, .inl (cs 0, 40, .inl S5))], [(b6, .inl (cs 0, 32, .inl S6))], [(b7, .inl (cs 0, 6, .inl S7))], (w_X10 ad (0) cs en S8_475h)]) (Wc := [(w_X10 ad (0) cs en S8_475h)]) (Wc' := [(w_X10 ad (0) cs en S8_475h)]) (is := [7]) (js := [0, 1, 2, 3, 4, 5, 6]) ⟨hx, hb, hml, hown, hts⟩ (k_X10_count l dC dI cs ad en H515.size S8_475h (22 : Int32) q528 gq528) (cwV 1 hts gL_isSo_X10_count rfl rfl rfl cd_X10_count ⟨Nat.le_of_ble_eq_true rfl, Nat.le_of_ble_eq_true rfl⟩) hK hP hD hS hA ⟨rfl, rfl, rfl, rfl, rfl, rfl⟩ (jn_nd (is := [7]) hD rfl rfl) 7 8 rfl rfl rfl rfl rfl hl.1 (Nat.le_of_ble_eq_true rfl) dL_isSo_528 ⟨Nat.le_of_ble_eq_true rfl, Nat.le_of_ble_eq_true rfl⟩ (fun H528 locs528 hP' hD' hS' => ?_)
              replace hS := hS'
              replace hP : va_P (dC, dI) vwCl (fl [[(b1, .inl (cs 0, 8, .inl S1))], [(b2, .inl (cs 0, 24, .inl S2))], [(b3, .inl (cs 0, 48, .inl S3))], [(b4, .inl (cs 0, 48, .inl S4))], [(b5, .inl (cs 0, 40, .inl S5))], [(b6, .inl (cs 0, 32, .inl S6))], [(b7, .inl (cs 0, 6, .inl S7))], (w_X10 ad (0) cs en S8_475h)]) H528 := hP'
              replace hD : va_D A (fl [[(b1, .inl (cs 0, 8, .inl S1))], [(b2, .inl (cs 0, 24, .inl S2))], [(b3, .inl (cs 0, 48, .inl S3))], [(b4, .inl (cs 0, 48, .inl S4))], [(b5, .inl (cs 0, 40, .inl S5))], [(b6, .inl (cs 0, 32, .inl S6))], [(b7, .inl (cs 0, 6, .inl S7))], (w_X10 ad (0) cs en S8_475h)]) := hD'
              clear hP' hD' hS'
              refine lv_aload_n hx hb dL_isSo_531 rfl (lv_at hl 1 rfl) ?_
              refine lv_bipush (v := 7) hx hb dL_isSo_532 bp_7 ?_
              refine va_iald hx hb hK hP 0 0 rfl rfl vi_7_8 dL_isSo_534 ?_
              refine lv_icmp_ne (tgt := 542) hx hb dL_isSo_535 (by decide) (fun c535 => ?_) (fun c535 => ?_)
              · replace hR := it_f hR c535
                refine lv_iconst (v := 0) hx hb dL_isSo_542 ic_0 ?_
                replace hR := Option.some.inj hR
                obtain ⟨e9, hR⟩ := Prod.mk.inj hR
                have eu8 := hR
                replace hP : va_P (dC, dI) vwCl (fl [[(b1, .inl (cs 0, 8, .inl S1))], [(b2, .inl (cs 0, 24, .inl S2))], [(b3, .inl (cs 0, 48, .inl S3))], [(b4, .inl (cs 0, 48, .inl S4))], [(b5, .inl (cs 0, 40, .inl S5))], [(b6, .inl (cs 0, 32, .inl S6))], [(b7, .inl (cs 0, 6, .inl S7))], (w_X10 ad (0) cs en u8)]) H528 := by rw [← eu8]; exact hP
                replace hD : va_D A (fl [[(b1, .inl (cs 0, 8, .inl S1))], [(b2, .inl (cs 0, 24, .inl S2))], [(b3, .inl (cs 0, 48, .inl S3))], [(b4, .inl (cs 0, 48, .inl S4))], [(b5, .inl (cs 0, 40, .inl S5))], [(b6, .inl (cs 0, 32, .inl S6))], [(b7, .inl (cs 0, 6, .inl S7))], (w_X10 ad (0) cs en u8)]) := by rw [← eu8]; exact hD
                exact W.zret (ty := .boolean) hx hb hr (by decide) (fun t ht hW => ⟨⟨_, (), rfl, e9, by rw [ht]; exact hP, va_K.moved hW.alike hK, hD⟩, hS.F ht⟩) hS.2.2 dL_isSo_543
              · replace hR := it_t hR c535
                refine lv_iconst (v := 1) hx hb dL_isSo_538 ic_1 ?_
                refine lv_goto (tgt := 543) hx hb dL_isSo_539 (by decide) ?_
                replace hR := Option.some.inj hR
                obtain ⟨e9, hR⟩ := Prod.mk.inj hR
                have eu8 := hR
                replace hP : va_P (dC, dI) vwCl (fl [[(b1, .inl (cs 0, 8, .inl S1))], [(b2, .inl (cs 0, 24, .inl S2))], [(b3, .inl (cs 0, 48, .inl S3))], [(b4, .inl (cs 0, 48, .inl S4))], [(b5, .inl (cs 0, 40, .inl S5))], [(b6, .inl (cs 0, 32, .inl S6))], [(b7, .inl (cs 0, 6, .inl S7))], (w_X10 ad (0) cs en u8)]) H528 := by rw [← eu8]; exact hP
                replace hD : va_D A (fl [[(b1, .inl (cs 0, 8, .inl S1))], [(b2, .inl (cs 0, 24, .inl S2))], [(b3, .inl (cs 0, 48, .inl S3))], [(b4, .inl (cs 0, 48, .inl S4))], [(b5, .inl (cs 0, 40, .inl S5))], [(b6, .inl (cs 0, 32, .inl S6))], [(b7, .inl (cs 0, 6, .inl S7))], (w_X10 ad (0) cs en u8)]) := by rw [← eu8]; exact hD
                exact W.zret (ty := .boolean) hx hb hr (by decide) (fun t ht hW => ⟨⟨_, (), rfl, e9, by rw [ht]; exact hP, va_K.moved hW.alike hK, hD⟩, hS.F ht⟩) hS.2.2 dL_isSo_543
  have hB438 : ∀ (n438 : Nat), ∀ (S8_438h : T5) (v8_438 : Int32) (v9_438 : Int32) (v10_438 : Int32) (H : Heap) (locs : List Loc) (ls : Array Slot), fL_isSo_438 S1 S2 S3 S4 S5 S6 S7 n438 S8_438h v8_438 v9_438 v10_438 = some (r, u8) → va_P (dC, dI) vwCl (fl [[(b1, .inl (cs 0, 8, .inl S1))], [(b2, .inl (cs 0, 24, .inl S2))], [(b3, .inl (cs 0, 48, .inl S3))], [(b4, .inl (cs 0, 48, .inl S4))], [(b5, .inl (cs 0, 40, .inl S5))], [(b6, .inl (cs 0, 32, .inl S6))], [(b7, .inl (cs 0, 6, .inl S7))], (w_X10 ad (0) cs en S8_438h)]) H → va_D A (fl [[(b1, .inl (cs 0, 8, .inl S1))], [(b2, .inl (cs 0, 24, .inl S2))], [(b3, .inl (cs 0, 48, .inl S3))], [(b4, .inl (cs 0, 48, .inl S4))], [(b5, .inl (cs 0, 40, .inl S5))], [(b6, .inl (cs 0, 32, .inl S6))], [(b7, .inl (cs 0, 6, .inl S7))], (w_X10 ad (0) cs en S8_438h)]) → va_S A s.heap H locs → lv_has ls 13 [(0, .ref (ad 0)), (1, .ref b1), (8, .int v8_438), (9, .int v9_438), (10, .int v10_438)] → W p l e (headSpec wsL_isSo ({ frames := 6, cells := 1, slots := 4, locals := 138 } : Room)).room s m ([.ref (ad 0), .ref b1, .ref b2, .ref b3, .ref b4, .ref b5, .ref b6, .ref b7] : List Value).toArray below meth c H locs 1 4 (MQ below (QI dC dI (tyL cs) A (fl [[(b1, .inl (cs 0, 8, .inl S1))], [(b2, .inl (cs 0, 24, .inl S2))], [(b3, .inl (cs 0, 48, .inl S3))], [(b4, .inl (cs 0, 48, .inl S4))], [(b5, .inl (cs 0, 40, .inl S5))], [(b6, .inl (cs 0, 32, .inl S6))], [(b7, .inl (cs 0, 6, .inl S7))], (w_X10 ad (0) cs en u8)]) r) ([.ref (ad 0), .ref b1, .ref b2, .ref b3, .ref b4, .ref b5, .ref b6, .ref b7] : List Value).toArray s 1 4 A) (F0 m 438 ls []) := by
    intro n438
    induction n438 with
    | zero =>
      intro S8_438h v8_438 v9_438 v10_438 H locs ls hR hP hD hS hl
      exact nn_e hR
    | succ n438 hI438 =>
      have hB467 : ∀ (S8_467h : T5) (v9_467 : Int32) (v10_467 : Int32) (t0_467 : Int32) (H : Heap) (locs : List Loc) (ls : Array Slot), fL_isSo_467 (fL_isSo_438 S1 S2 S3 S4 S5 S6 S7 n438) S1 S2 S3 S4 S5 S6 S7 S8_467h v9_467 v10_467 t0_467 = some (r, u8) → va_P (dC, dI) vwCl (fl [[(b1, .inl (cs 0, 8, .inl S1))], [(b2, .inl (cs 0, 24, .inl S2))], [(b3, .inl (cs 0, 48, .inl S3))], [(b4, .inl (cs 0, 48, .inl S4))], [(b5, .inl (cs 0, 40, .inl S5))], [(b6, .inl (cs 0, 32, .inl S6))], [(b7, .inl (cs 0, 6, .inl S7))], (w_X10 ad (0) cs en S8_467h)]) H → va_D A (fl [[(b1, .inl (cs 0, 8, .inl S1))], [(b2, .inl (cs 0, 24, .inl S2))], [(b3, .inl (cs 0, 48, .inl S3))], [(b4, .inl (cs 0, 48, .inl S4))], [(b5, .inl (cs 0, 40, .inl S5))], [(b6, .inl (cs 0, 32, .inl S6))], [(b7, .inl (cs 0, 6, .inl S7))], (w_X10 ad (0) cs en S8_467h)]) → va_S A s.heap H locs → lv_has ls 13 [(0, .ref (ad 0)), (1, .ref b1), (9, .int v9_467), (10, .int v10_467)] → W p l e (headSpec wsL_isSo ({ frames := 6, cells := 1, slots := 4, locals := 138 } : Room)).room s m ([.ref (ad 0), .ref b1, .ref b2, .ref b3, .ref b4, .ref b5, .ref b6, .ref b7] : List Value).toArray below meth c H locs 1 4 (MQ below (QI dC dI (tyL cs) A (fl [[(b1, .inl (cs 0, 8, .inl S1))], [(b2, .inl (cs 0, 24, .inl S2))], [(b3, .inl (cs 0, 48, .inl S3))], [(b4, .inl (cs 0, 48, .inl S4))], [(b5, .inl (cs 0, 40, .inl S5))], [(b6, .inl (cs 0, 32, .inl S6))], [(b7, .inl (cs 0, 6, .inl S7))], (w_X10 ad (0) cs en u8)]) r) ([.ref (ad 0), .ref b1, .ref b2, .ref b3, .ref b4, .ref b5, .ref b6, .ref b7] : List Value).toArray s 1 4 A) (F0 m 467 ls [.int t0_467]) := by
        intro S8_467h v9_467 v10_467 t0_467 H locs ls hR hP hD hS hl
        refine lv_istore (lv' := [(8, .int t0_467), (0, .ref (ad 0)), (1, .ref b1), (9, .int v9_467), (10, .int v10_467)]) hx hb dL_isSo_467 hl (Nat.le_of_ble_eq_true rfl) rfl (fun ls hl => ?_)
        refine lv_iinc (v := (v10_467 + 1)) (lv' := [(10, .int (v10_467 + 1)), (8, .int t0_467), (0, .ref (ad 0)), (1, .ref b1), (9, .int v9_467)]) hx hb dL_isSo_469 hl (k := 4) rfl rfl (Nat.le_of_ble_eq_true rfl) rfl (fun ls hl => ?_)
        refine lv_goto (tgt := 438) hx hb dL_isSo_472 (by decide) ?_
        exact hI438 S8_467h t0_467 v9_467 (v10_467 + 1) H _ ls hR hP hD hS (lv_sub hl [2, 3, 1, 4, 0] rfl)
      intro S8_438h v8_438 v9_438 v10_438 H locs ls hR hP hD hS hl
      rw [fL_isSo_438] at hR
      refine lv_iload hx hb dL_isSo_438 (lv_at hl 4 rfl) ?_
      refine lv_iconst (v := 5) hx hb dL_isSo_440 ic_5 ?_
      refine lv_icmp_ge (tgt := 475) hx hb dL_isSo_441 (by decide) (fun c441 => ?_) (fun c441 => ?_)
      · replace hR := it_t hR c441
        exact hB475 S8_438h v8_438 v9_438 H _ ls hR hP hD hS (lv_sub hl [0, 1, 2, 3] rfl)
      · replace hR := it_f hR c441
        refine lv_iload hx hb dL_isSo_444 (lv_at hl 2 rfl) ?_
        refine lv_if_eq (tgt := 475) hx hb dL_isSo_446 (by decide) (fun c446 => ?_) (fun c446 => ?_)
        · replace hR := it_t hR c446
          exact hB475 S8_438h v8_438 v9_438 H _ ls hR hP hD hS (lv_sub hl [0, 1, 2, 3] rfl)
        · replace hR := it_f hR c446
          refine lv_aload_n hx hb dL_isSo_449 rfl (lv_at hl 0 rfl) ?_
          refine lv_iload hx hb dL_isSo_450 (lv_at hl 4 rfl) ?_
          replace hR := bd_e hR
          obtain ⟨q452, gq452, hR⟩ := hR
          refine cm_Vi (As := [.int v10_438]) (rest := []) (L := [[(b1, .inl (cs 0, 8, .inl S1))], [(b2, .inl (cs 0, 24, .inl S2))], [(b3, .inl (cs 0, 48, .inl S3))], [(b4, .inl (cs 0, 48, .inl S4))], [(b5, .inl (cs 0, 40, .inl S5))], [(b6, .inl (cs 0, 32, .inl S6))], [(b7, .inl (cs 0, 6, .inl S7))], (w_X10 ad (0) cs en S8_438h)]) (L' := [[(b1, .inl (cs 0, 8, .inl S1))], [(b2, .inl (cs 0, 24, .inl S2))], [(b3, .inl (cs 0, 48, .inl S3))], [(b4, .inl (cs 0, 48, .inl S4))], [(b5, .inl (cs 0, 40, .inl S5))], [(b6, .inl (cs 0, 32, .inl S6))], [(b7, .inl (cs 0, 6, .inl S7))], (w_X10 ad (0) cs en S8_438h)]) (Wc := [(w_X10 ad (0) cs en S8_438h)]) (Wc' := [(w_X10 ad (0) cs en S8_438h)]) (is := [7]) (js := [0, 1, 2, 3, 4, 5, 6]) ⟨hx, hb, hml, hown, hts⟩ (k_X10_count l dC dI cs ad en H.size S8_438h v10_438 q452 gq452) (cwV 1 hts gL_isSo_X10_count rfl rfl rfl cd_X10_count ⟨Nat.le_of_ble_eq_true rfl, Nat.le_of_ble_eq_true rfl⟩) hK hP hD hS hA ⟨rfl, rfl, rfl, rfl, rfl, rfl⟩ (jn_nd (is := [7]) hD rfl rfl) 7 8 rfl rfl rfl rfl rfl hl.1 (Nat.le_of_ble_eq_true rfl) dL_isSo_452 ⟨Nat.le_of_ble_eq_true rfl, Nat.le_of_ble_eq_true rfl⟩ (fun H452 locs452 hP' hD' hS' => ?_)
          replace hS := hS'
          replace hP : va_P (dC, dI) vwCl (fl [[(b1, .inl (cs 0, 8, .inl S1))], [(b2, .inl (cs 0, 24, .inl S2))], [(b3, .inl (cs 0, 48, .inl S3))], [(b4, .inl (cs 0, 48, .inl S4))], [(b5, .inl (cs 0, 40, .inl S5))], [(b6, .inl (cs 0, 32, .inl S6))], [(b7, .inl (cs 0, 6, .inl S7))], (w_X10 ad (0) cs en S8_438h)]) H452 := hP'
          replace hD : va_D A (fl [[(b1, .inl (cs 0, 8, .inl S1))], [(b2, .inl (cs 0, 24, .inl S2))], [(b3, .inl (cs 0, 48, .inl S3))], [(b4, .inl (cs 0, 48, .inl S4))], [(b5, .inl (cs 0, 40, .inl S5))], [(b6, .inl (cs 0, 32, .inl S6))], [(b7, .inl (cs 0, 6, .inl S7))], (w_X10 ad (0) cs en S8_438h)]) := hD'
          clear hP' hD' hS'
          refine lv_aload_n hx hb dL_isSo_455 rfl (lv_at hl 1 rfl) ?_
          refine lv_iload hx hb dL_isSo_456 (lv_at hl 4 rfl) ?_
          replace hR := gi_e hR
          obtain ⟨i458, hR⟩ := hR
          refine va_iald hx hb hK hP 0 0 rfl rfl i458 dL_isSo_458 ?_
          refine lv_icmp_ne (tgt := 466) hx hb dL_isSo_459 (by decide) (fun c459 => ?_) (fun c459 => ?_)
          · replace hR := it_f hR c459
            refine lv_iconst (v := 0) hx hb dL_isSo_466 ic_0 ?_
            exact hB467 S8_438h v9_438 v10_438 (0 : Int32) H452 _ ls hR hP hD hS (lv_sub hl [0, 1, 3, 4] rfl)
          · replace hR := it_t hR c459
            refine lv_iconst (v := 1) hx hb dL_isSo_462 ic_1 ?_
            refine lv_goto (tgt := 467) hx hb dL_isSo_463 (by decide) ?_
            exact hB467 S8_438h v9_438 v10_438 (1 : Int32) H452 _ ls hR hP hD hS (lv_sub hl [0, 1, 3, 4] rfl)
  have hB435 : ∀ (S8_435h : T5) (v8_435 : Int32) (v9_435 : Int32) (H : Heap) (locs : List Loc) (ls : Array Slot), fL_isSo_435 S1 S2 S3 S4 S5 S6 S7 S8_435h v8_435 v9_435 = some (r, u8) → va_P (dC, dI) vwCl (fl [[(b1, .inl (cs 0, 8, .inl S1))], [(b2, .inl (cs 0, 24, .inl S2))], [(b3, .inl (cs 0, 48, .inl S3))], [(b4, .inl (cs 0, 48, .inl S4))], [(b5, .inl (cs 0, 40, .inl S5))], [(b6, .inl (cs 0, 32, .inl S6))], [(b7, .inl (cs 0, 6, .inl S7))], (w_X10 ad (0) cs en S8_435h)]) H → va_D A (fl [[(b1, .inl (cs 0, 8, .inl S1))], [(b2, .inl (cs 0, 24, .inl S2))], [(b3, .inl (cs 0, 48, .inl S3))], [(b4, .inl (cs 0, 48, .inl S4))], [(b5, .inl (cs 0, 40, .inl S5))], [(b6, .inl (cs 0, 32, .inl S6))], [(b7, .inl (cs 0, 6, .inl S7))], (w_X10 ad (0) cs en S8_435h)]) → va_S A s.heap H locs → lv_has ls 13 [(0, .ref (ad 0)), (1, .ref b1), (8, .int v8_435), (9, .int v9_435)] → W p l e (headSpec wsL_isSo ({ frames := 6, cells := 1, slots := 4, locals := 138 } : Room)).room s m ([.ref (ad 0), .ref b1, .ref b2, .ref b3, .ref b4, .ref b5, .ref b6, .ref b7] : List Value).toArray below meth c H locs 1 4 (MQ below (QI dC dI (tyL cs) A (fl [[(b1, .inl (cs 0, 8, .inl S1))], [(b2, .inl (cs 0, 24, .inl S2))], [(b3, .inl (cs 0, 48, .inl S3))], [(b4, .inl (cs 0, 48, .inl S4))], [(b5, .inl (cs 0, 40, .inl S5))], [(b6, .inl (cs 0, 32, .inl S6))], [(b7, .inl (cs 0, 6, .inl S7))], (w_X10 ad (0) cs en u8)]) r) ([.ref (ad 0), .ref b1, .ref b2, .ref b3, .ref b4, .ref b5, .ref b6, .ref b7] : List Value).toArray s 1 4 A) (F0 m 435 ls []) := by
    intro S8_435h v8_435 v9_435 H locs ls hR hP hD hS hl
    refine lv_iconst (v := 0) hx hb dL_isSo_435 ic_0 ?_
    refine lv_istore (lv' := [(10, .int (0 : Int32)), (0, .ref (ad 0)), (1, .ref b1), (8, .int v8_435), (9, .int v9_435)]) hx hb dL_isSo_436 hl (Nat.le_of_ble_eq_true rfl) rfl (fun ls hl => ?_)
    exact hB438 fuel S8_435h v8_435 v9_435 (0 : Int32) H _ ls hR hP hD hS (lv_sub hl [1, 2, 3, 4, 0] rfl)
  have hB252 : ∀ (n252 : Nat), ∀ (S8_252h : T5) (v8_252 : Int32) (v9_252 : Int32) (v10_252 : Int32) (H : Heap) (locs : List Loc) (ls : Array Slot), fL_isSo_252 S1 S2 S3 S4 S5 S6 S7 n252 S8_252h v8_252 v9_252 v10_252 = some (r, u8) → va_P (dC, dI) vwCl (fl [[(b1, .inl (cs 0, 8, .inl S1))], [(b2, .inl (cs 0, 24, .inl S2))], [(b3, .inl (cs 0, 48, .inl S3))], [(b4, .inl (cs 0, 48, .inl S4))], [(b5, .inl (cs 0, 40, .inl S5))], [(b6, .inl (cs 0, 32, .inl S6))], [(b7, .inl (cs 0, 6, .inl S7))], (w_X10 ad (0) cs en S8_252h)]) H → va_D A (fl [[(b1, .inl (cs 0, 8, .inl S1))], [(b2, .inl (cs 0, 24, .inl S2))], [(b3, .inl (cs 0, 48, .inl S3))], [(b4, .inl (cs 0, 48, .inl S4))], [(b5, .inl (cs 0, 40, .inl S5))], [(b6, .inl (cs 0, 32, .inl S6))], [(b7, .inl (cs 0, 6, .inl S7))], (w_X10 ad (0) cs en S8_252h)]) → va_S A s.heap H locs → lv_has ls 13 [(0, .ref (ad 0)), (1, .ref b1), (3, .ref b3), (7, .ref b7), (8, .int v8_252), (9, .int v9_252), (10, .int v10_252)] → W p l e (headSpec wsL_isSo ({ frames := 6, cells := 1, slots := 4, locals := 138 } : Room)).room s m ([.ref (ad 0), .ref b1, .ref b2, .ref b3, .ref b4, .ref b5, .ref b6, .ref b7] : List Value).toArray below meth c H locs 1 4 (MQ below (QI dC dI (tyL cs) A (fl [[(b1, .inl (cs 0, 8, .inl S1))], [(b2, .inl (cs 0, 24, .inl S2))], [(b3, .inl (cs 0, 48, .inl S3))], [(b4, .inl (cs 0, 48, .inl S4))], [(b5, .inl (cs 0, 40, .inl S5))], [(b6, .inl (cs 0, 32, .inl S6))], [(b7, .inl (cs 0, 6, .inl S7))], (w_X10 ad (0) cs en u8)]) r) ([.ref (ad 0), .ref b1, .ref b2, .ref b3, .ref b4, .ref b5, .ref b6, .ref b7] : List Value).toArray s 1 4 A) (F0 m 252 ls []) := by
    intro n252
    induction n252 with
    | zero =>
      intro S8_252h v8_252 v9_252 v10_252 H locs ls hR hP hD hS hl
      exact nn_e hR
    | succ n252 hI252 =>
      have hB427 : ∀ (S8_427h : T5) (v9_427 : Int32) (v10_427 : Int32) (t0_427 : Int32) (H : Heap) (locs : List Loc) (ls : Array Slot), fL_isSo_427 (fL_isSo_252 S1 S2 S3 S4 S5 S6 S7 n252) S1 S2 S3 S4 S5 S6 S7 S8_427h v9_427 v10_427 t0_427 = some (r, u8) → va_P (dC, dI) vwCl (fl [[(b1, .inl (cs 0, 8, .inl S1))], [(b2, .inl (cs 0, 24, .inl S2))], [(b3, .inl (cs 0, 48, .inl S3))], [(b4, .inl (cs 0, 48, .inl S4))], [(b5, .inl (cs 0, 40, .inl S5))], [(b6, .inl (cs 0, 32, .inl S6))], [(b7, .inl (cs 0, 6, .inl S7))], (w_X10 ad (0) cs en S8_427h)]) H → va_D A (fl [[(b1, .inl (cs 0, 8, .inl S1))], [(b2, .inl (cs 0, 24, .inl S2))], [(b3, .inl (cs 0, 48, .inl S3))], [(b4, .inl (cs 0, 48, .inl S4))], [(b5, .inl (cs 0, 40, .inl S5))], [(b6, .inl (cs 0, 32, .inl S6))], [(b7, .inl (cs 0, 6, .inl S7))], (w_X10 ad (0) cs en S8_427h)]) → va_S A s.heap H locs → lv_has ls 13 [(0, .ref (ad 0)), (1, .ref b1), (3, .ref b3), (7, .ref b7), (9, .int v9_427), (10, .int v10_427)] → W p l e (headSpec wsL_isSo ({ frames := 6, cells := 1, slots := 4, locals := 138 } : Room)).room s m ([.ref (ad 0), .ref b1, .ref b2, .ref b3, .ref b4, .ref b5, .ref b6, .ref b7] : List Value).toArray below meth c H locs 1 4 (MQ below (QI dC dI (tyL cs) A (fl [[(b1, .inl (cs 0, 8, .inl S1))], [(b2, .inl (cs 0, 24, .inl S2))], [(b3, .inl (cs 0, 48, .inl S3))], [(b4, .inl (cs 0, 48, .inl S4))], [(b5, .inl (cs 0, 40, .inl S5))], [(b6, .inl (cs 0, 32, .inl S6))], [(b7, .inl (cs 0, 6, .inl S7))], (w_X10 ad (0) cs en u8)]) r) ([.ref (ad 0), .ref b1, .ref b2, .ref b3, .ref b4, .ref b5, .ref b6, .ref b7] : List Value).toArray s 1 4 A) (F0 m 427 ls [.int t0_427]) := by
        intro S8_427h v9_427 v10_427 t0_427 H locs ls hR hP hD hS hl
        refine lv_istore (lv' := [(8, .int t0_427), (0, .ref (ad 0)), (1, .ref b1), (3, .ref b3), (7, .ref b7), (9, .int v9_427), (10, .int v10_427)]) hx hb dL_isSo_427 hl (Nat.le_of_ble_eq_true rfl) rfl (fun ls hl => ?_)
        refine lv_iinc (v := (v10_427 + 1)) (lv' := [(10, .int (v10_427 + 1)), (8, .int t0_427), (0, .ref (ad 0)), (1, .ref b1), (3, .ref b3), (7, .ref b7), (9, .int v9_427)]) hx hb dL_isSo_429 hl (k := 6) rfl rfl (Nat.le_of_ble_eq_true rfl) rfl (fun ls hl => ?_)
        refine lv_goto (tgt := 252) hx hb dL_isSo_432 (by decide) ?_
        exact hI252 S8_427h t0_427 v9_427 (v10_427 + 1) H _ ls hR hP hD hS (lv_sub hl [2, 3, 4, 5, 1, 6, 0] rfl)
      have hB426 : ∀ (S8_426h : T5) (v9_426 : Int32) (v10_426 : Int32) (H : Heap) (locs : List Loc) (ls : Array Slot), fL_isSo_426 (fL_isSo_252 S1 S2 S3 S4 S5 S6 S7 n252) S1 S2 S3 S4 S5 S6 S7 S8_426h v9_426 v10_426 = some (r, u8) → va_P (dC, dI) vwCl (fl [[(b1, .inl (cs 0, 8, .inl S1))], [(b2, .inl (cs 0, 24, .inl S2))], [(b3, .inl (cs 0, 48, .inl S3))], [(b4, .inl (cs 0, 48, .inl S4))], [(b5, .inl (cs 0, 40, .inl S5))], [(b6, .inl (cs 0, 32, .inl S6))], [(b7, .inl (cs 0, 6, .inl S7))], (w_X10 ad (0) cs en S8_426h)]) H → va_D A (fl [[(b1, .inl (cs 0, 8, .inl S1))], [(b2, .inl (cs 0, 24, .inl S2))], [(b3, .inl (cs 0, 48, .inl S3))], [(b4, .inl (cs 0, 48, .inl S4))], [(b5, .inl (cs 0, 40, .inl S5))], [(b6, .inl (cs 0, 32, .inl S6))], [(b7, .inl (cs 0, 6, .inl S7))], (w_X10 ad (0) cs en S8_426h)]) → va_S A s.heap H locs → lv_has ls 13 [(0, .ref (ad 0)), (1, .ref b1), (3, .ref b3), (7, .ref b7), (9, .int v9_426), (10, .int v10_426)] → W p l e (headSpec wsL_isSo ({ frames := 6, cells := 1, slots := 4, locals := 138 } : Room)).room s m ([.ref (ad 0), .ref b1, .ref b2, .ref b3, .ref b4, .ref b5, .ref b6, .ref b7] : List Value).toArray below meth c H locs 1 4 (MQ below (QI dC dI (tyL cs) A (fl [[(b1, .inl (cs 0, 8, .inl S1))], [(b2, .inl (cs 0, 24, .inl S2))], [(b3, .inl (cs 0, 48, .inl S3))], [(b4, .inl (cs 0, 48, .inl S4))], [(b5, .inl (cs 0, 40, .inl S5))], [(b6, .inl (cs 0, 32, .inl S6))], [(b7, .inl (cs 0, 6, .inl S7))], (w_X10 ad (0) cs en u8)]) r) ([.ref (ad 0), .ref b1, .ref b2, .ref b3, .ref b4, .ref b5, .ref b6, .ref b7] : List Value).toArray s 1 4 A) (F0 m 426 ls []) := by
        intro S8_426h v9_426 v10_426 H locs ls hR hP hD hS hl
        refine lv_iconst (v := 0) hx hb dL_isSo_426 ic_0 ?_
        exact hB427 S8_426h v9_426 v10_426 (0 : Int32) H _ ls hR hP hD hS (lv_sub hl [0, 1, 2, 3, 4, 5] rfl)
      have hB408 : ∀ (S8_408h : T5) (v9_408 : Int32) (v10_408 : Int32) (t0_408 : Int32) (t1_408 : Int32) (H : Heap) (locs : List Loc) (ls : Array Slot), fL_isSo_408 (fL_isSo_252 S1 S2 S3 S4 S5 S6 S7 n252) S1 S2 S3 S4 S5 S6 S7 S8_408h v9_408 v10_408 t0_408 t1_408 = some (r, u8) → va_P (dC, dI) vwCl (fl [[(b1, .inl (cs 0, 8, .inl S1))], [(b2, .inl (cs 0, 24, .inl S2))], [(b3, .inl (cs 0, 48, .inl S3))], [(b4, .inl (cs 0, 48, .inl S4))], [(b5, .inl (cs 0, 40, .inl S5))], [(b6, .inl (cs 0, 32, .inl S6))], [(b7, .inl (cs 0, 6, .inl S7))], (w_X10 ad (0) cs en S8_408h)]) H → va_D A (fl [[(b1, .inl (cs 0, 8, .inl S1))], [(b2, .inl (cs 0, 24, .inl S2))], [(b3, .inl (cs 0, 48, .inl S3))], [(b4, .inl (cs 0, 48, .inl S4))], [(b5, .inl (cs 0, 40, .inl S5))], [(b6, .inl (cs 0, 32, .inl S6))], [(b7, .inl (cs 0, 6, .inl S7))], (w_X10 ad (0) cs en S8_408h)]) → va_S A s.heap H locs → lv_has ls 13 [(0, .ref (ad 0)), (1, .ref b1), (3, .ref b3), (7, .ref b7), (9, .int v9_408), (10, .int v10_408)] → W p l e (headSpec wsL_isSo ({ frames := 6, cells := 1, slots := 4, locals := 138 } : Room)).room s m ([.ref (ad 0), .ref b1, .ref b2, .ref b3, .ref b4, .ref b5, .ref b6, .ref b7] : List Value).toArray below meth c H locs 1 4 (MQ below (QI dC dI (tyL cs) A (fl [[(b1, .inl (cs 0, 8, .inl S1))], [(b2, .inl (cs 0, 24, .inl S2))], [(b3, .inl (cs 0, 48, .inl S3))], [(b4, .inl (cs 0, 48, .inl S4))], [(b5, .inl (cs 0, 40, .inl S5))], [(b6, .inl (cs 0, 32, .inl S6))], [(b7, .inl (cs 0, 6, .inl S7))], (w_X10 ad (0) cs en u8)]) r) ([.ref (ad 0), .ref b1, .ref b2, .ref b3, .ref b4, .ref b5, .ref b6, .ref b7] : List Value).toArray s 1 4 A) (F0 m 408 ls [.int t1_408, .int t0_408]) := by
        intro S8_408h v9_408 v10_408 t0_408 t1_408 H locs ls hR hP hD hS hl
        refine lv_icmp_ne (tgt := 426) hx hb dL_isSo_408 (by decide) (fun c408 => ?_) (fun c408 => ?_)
        · replace hR := it_f hR c408
          exact hB426 S8_408h v9_408 v10_408 H _ ls hR hP hD hS (lv_sub hl [0, 1, 2, 3, 4, 5] rfl)
        · replace hR := it_t hR c408
          refine lv_aload_n hx hb dL_isSo_411 rfl (lv_at hl 0 rfl) ?_
          refine lv_iload hx hb dL_isSo_412 (lv_at hl 5 rfl) ?_
          refine lv_iconst (v := 4) hx hb dL_isSo_414 ic_4 ?_
          replace hR := bd_e hR
          obtain ⟨q415, gq415, hR⟩ := hR
          refine cm_Vi (As := [.int v10_408, .int (4 : Int32)]) (rest := []) (L := [[(b1, .inl (cs 0, 8, .inl S1))], [(b2, .inl (cs 0, 24, .inl S2))], [(b3, .inl (cs 0, 48, .inl S3))], [(b4, .inl (cs 0, 48, .inl S4))], [(b5, .inl (cs 0, 40, .inl S5))], [(b6, .inl (cs 0, 32, .inl S6))], [(b7, .inl (cs 0, 6, .inl S7))], (w_X10 ad (0) cs en S8_408h)]) (L' := [[(b1, .inl (cs 0, 8, .inl S1))], [(b2, .inl (cs 0, 24, .inl S2))], [(b3, .inl (cs 0, 48, .inl S3))], [(b4, .inl (cs 0, 48, .inl S4))], [(b5, .inl (cs 0, 40, .inl S5))], [(b6, .inl (cs 0, 32, .inl S6))], [(b7, .inl (cs 0, 6, .inl S7))], (w_X10 ad (0) cs en S8_408h)]) (Wc := [(w_X10 ad (0) cs en S8_408h)]) (Wc' := [(w_X10 ad (0) cs en S8_408h)]) (is := [7]) (js := [0, 1, 2, 3, 4, 5, 6]) ⟨hx, hb, hml, hown, hts⟩ (k_X10_vanOf l dC dI cs ad en H.size S8_408h v10_408 (4 : Int32) q415 gq415) (cwV 2 hts gL_isSo_X10_vanOf rfl rfl rfl cd_X10_vanOf ⟨Nat.le_of_ble_eq_true rfl, Nat.le_of_ble_eq_true rfl⟩) hK hP hD hS hA ⟨rfl, rfl, rfl, rfl, rfl, rfl⟩ (jn_nd (is := [7]) hD rfl rfl) 7 8 rfl rfl rfl rfl rfl hl.1 (Nat.le_of_ble_eq_true rfl) dL_isSo_415 ⟨Nat.le_of_ble_eq_true rfl, Nat.le_of_ble_eq_true rfl⟩ (fun H415 locs415 hP' hD' hS' => ?_)
          replace hS := hS'
          replace hP : va_P (dC, dI) vwCl (fl [[(b1, .inl (cs 0, 8, .inl S1))], [(b2, .inl (cs 0, 24, .inl S2))], [(b3, .inl (cs 0, 48, .inl S3))], [(b4, .inl (cs 0, 48, .inl S4))], [(b5, .inl (cs 0, 40, .inl S5))], [(b6, .inl (cs 0, 32, .inl S6))], [(b7, .inl (cs 0, 6, .inl S7))], (w_X10 ad (0) cs en S8_408h)]) H415 := hP'
          replace hD : va_D A (fl [[(b1, .inl (cs 0, 8, .inl S1))], [(b2, .inl (cs 0, 24, .inl S2))], [(b3, .inl (cs 0, 48, .inl S3))], [(b4, .inl (cs 0, 48, .inl S4))], [(b5, .inl (cs 0, 40, .inl S5))], [(b6, .inl (cs 0, 32, .inl S6))], [(b7, .inl (cs 0, 6, .inl S7))], (w_X10 ad (0) cs en S8_408h)]) := hD'
          clear hP' hD' hS'
          refine lv_iconst (v := (-1)) hx hb dL_isSo_418 ic_m1 ?_
          refine lv_icmp_ne (tgt := 426) hx hb dL_isSo_419 (by decide) (fun c419 => ?_) (fun c419 => ?_)
          · replace hR := it_f hR c419
            exact hB426 S8_408h v9_408 v10_408 H415 _ ls hR hP hD hS (lv_sub hl [0, 1, 2, 3, 4, 5] rfl)
          · replace hR := it_t hR c419
            refine lv_iconst (v := 1) hx hb dL_isSo_422 ic_1 ?_
            refine lv_goto (tgt := 427) hx hb dL_isSo_423 (by decide) ?_
            exact hB427 S8_408h v9_408 v10_408 (1 : Int32) H415 _ ls hR hP hD hS (lv_sub hl [0, 1, 2, 3, 4, 5] rfl)
      have hB271 : ∀ (n271 : Nat), ∀ (S8_271h : T5) (v9_271 : Int32) (v10_271 : Int32) (v11_271 : Int32) (v12_271 : Int32) (H : Heap) (locs : List Loc) (ls : Array Slot), fL_isSo_271 (fL_isSo_252 S1 S2 S3 S4 S5 S6 S7 n252) S1 S2 S3 S4 S5 S6 S7 n271 S8_271h v9_271 v10_271 v11_271 v12_271 = some (r, u8) → va_P (dC, dI) vwCl (fl [[(b1, .inl (cs 0, 8, .inl S1))], [(b2, .inl (cs 0, 24, .inl S2))], [(b3, .inl (cs 0, 48, .inl S3))], [(b4, .inl (cs 0, 48, .inl S4))], [(b5, .inl (cs 0, 40, .inl S5))], [(b6, .inl (cs 0, 32, .inl S6))], [(b7, .inl (cs 0, 6, .inl S7))], (w_X10 ad (0) cs en S8_271h)]) H → va_D A (fl [[(b1, .inl (cs 0, 8, .inl S1))], [(b2, .inl (cs 0, 24, .inl S2))], [(b3, .inl (cs 0, 48, .inl S3))], [(b4, .inl (cs 0, 48, .inl S4))], [(b5, .inl (cs 0, 40, .inl S5))], [(b6, .inl (cs 0, 32, .inl S6))], [(b7, .inl (cs 0, 6, .inl S7))], (w_X10 ad (0) cs en S8_271h)]) → va_S A s.heap H locs → lv_has ls 13 [(0, .ref (ad 0)), (1, .ref b1), (3, .ref b3), (7, .ref b7), (9, .int v9_271), (10, .int v10_271), (11, .int v11_271), (12, .int v12_271)] → W p l e (headSpec wsL_isSo ({ frames := 6, cells := 1, slots := 4, locals := 138 } : Room)).room s m ([.ref (ad 0), .ref b1, .ref b2, .ref b3, .ref b4, .ref b5, .ref b6, .ref b7] : List Value).toArray below meth c H locs 1 4 (MQ below (QI dC dI (tyL cs) A (fl [[(b1, .inl (cs 0, 8, .inl S1))], [(b2, .inl (cs 0, 24, .inl S2))], [(b3, .inl (cs 0, 48, .inl S3))], [(b4, .inl (cs 0, 48, .inl S4))], [(b5, .inl (cs 0, 40, .inl S5))], [(b6, .inl (cs 0, 32, .inl S6))], [(b7, .inl (cs 0, 6, .inl S7))], (w_X10 ad (0) cs en u8)]) r) ([.ref (ad 0), .ref b1, .ref b2, .ref b3, .ref b4, .ref b5, .ref b6, .ref b7] : List Value).toArray s 1 4 A) (F0 m 271 ls []) := by
        intro n271
        induction n271 with
        | zero =>
          intro S8_271h v9_271 v10_271 v11_271 v12_271 H locs ls hR hP hD hS hl
          exact nn_e hR
        | succ n271 hI271 =>
          have hB312 : ∀ (S8_312h : T5) (v9_312 : Int32) (v10_312 : Int32) (v12_312 : Int32) (t0_312 : Int32) (t1_312 : Int32) (H : Heap) (locs : List Loc) (ls : Array Slot), fL_isSo_312 (fL_isSo_252 S1 S2 S3 S4 S5 S6 S7 n252) (fL_isSo_271 (fL_isSo_252 S1 S2 S3 S4 S5 S6 S7 n252) S1 S2 S3 S4 S5 S6 S7 n271) S1 S2 S3 S4 S5 S6 S7 S8_312h v9_312 v10_312 v12_312 t0_312 t1_312 = some (r, u8) → va_P (dC, dI) vwCl (fl [[(b1, .inl (cs 0, 8, .inl S1))], [(b2, .inl (cs 0, 24, .inl S2))], [(b3, .inl (cs 0, 48, .inl S3))], [(b4, .inl (cs 0, 48, .inl S4))], [(b5, .inl (cs 0, 40, .inl S5))], [(b6, .inl (cs 0, 32, .inl S6))], [(b7, .inl (cs 0, 6, .inl S7))], (w_X10 ad (0) cs en S8_312h)]) H → va_D A (fl [[(b1, .inl (cs 0, 8, .inl S1))], [(b2, .inl (cs 0, 24, .inl S2))], [(b3, .inl (cs 0, 48, .inl S3))], [(b4, .inl (cs 0, 48, .inl S4))], [(b5, .inl (cs 0, 40, .inl S5))], [(b6, .inl (cs 0, 32, .inl S6))], [(b7, .inl (cs 0, 6, .inl S7))], (w_X10 ad (0) cs en S8_312h)]) → va_S A s.heap H locs → lv_has ls 13 [(0, .ref (ad 0)), (1, .ref b1), (3, .ref b3), (7, .ref b7), (9, .int v9_312), (10, .int v10_312), (12, .int v12_312)] → W p l e (headSpec wsL_isSo ({ frames := 6, cells := 1, slots := 4, locals := 138 } : Room)).room s m ([.ref (ad 0), .ref b1, .ref b2, .ref b3, .ref b4, .ref b5, .ref b6, .ref b7] : List Value).toArray below meth c H locs 1 4 (MQ below (QI dC dI (tyL cs) A (fl [[(b1, .inl (cs 0, 8, .inl S1))], [(b2, .inl (cs 0, 24, .inl S2))], [(b3, .inl (cs 0, 48, .inl S3))], [(b4, .inl (cs 0, 48, .inl S4))], [(b5, .inl (cs 0, 40, .inl S5))], [(b6, .inl (cs 0, 32, .inl S6))], [(b7, .inl (cs 0, 6, .inl S7))], (w_X10 ad (0) cs en u8)]) r) ([.ref (ad 0), .ref b1, .ref b2, .ref b3, .ref b4, .ref b5, .ref b6, .ref b7] : List Value).toArray s 1 4 A) (F0 m 312 ls [.int t1_312, .int t0_312]) := by
            intro S8_312h v9_312 v10_312 v12_312 t0_312 t1_312 H locs ls hR hP hD hS hl
            refine lv_iadd hx hb dL_isSo_312 ?_
            refine lv_istore (lv' := [(11, .int (t0_312 + t1_312)), (0, .ref (ad 0)), (1, .ref b1), (3, .ref b3), (7, .ref b7), (9, .int v9_312), (10, .int v10_312), (12, .int v12_312)]) hx hb dL_isSo_313 hl (Nat.le_of_ble_eq_true rfl) rfl (fun ls hl => ?_)
            refine lv_iinc (v := (v12_312 + 1)) (lv' := [(12, .int (v12_312 + 1)), (11, .int (t0_312 + t1_312)), (0, .ref (ad 0)), (1, .ref b1), (3, .ref b3), (7, .ref b7), (9, .int v9_312), (10, .int v10_312)]) hx hb dL_isSo_315 hl (k := 7) rfl rfl (Nat.le_of_ble_eq_true rfl) rfl (fun ls hl => ?_)
            refine lv_goto (tgt := 271) hx hb dL_isSo_318 (by decide) ?_
            exact hI271 S8_312h v9_312 v10_312 (t0_312 + t1_312) (v12_312 + 1) H _ ls hR hP hD hS (lv_sub hl [2, 3, 4, 5, 6, 7, 1, 0] rfl)
          have hB311 : ∀ (S8_311h : T5) (v9_311 : Int32) (v10_311 : Int32) (v12_311 : Int32) (t0_311 : Int32) (H : Heap) (locs : List Loc) (ls : Array Slot), fL_isSo_311 (fL_isSo_252 S1 S2 S3 S4 S5 S6 S7 n252) (fL_isSo_271 (fL_isSo_252 S1 S2 S3 S4 S5 S6 S7 n252) S1 S2 S3 S4 S5 S6 S7 n271) S1 S2 S3 S4 S5 S6 S7 S8_311h v9_311 v10_311 v12_311 t0_311 = some (r, u8) → va_P (dC, dI) vwCl (fl [[(b1, .inl (cs 0, 8, .inl S1))], [(b2, .inl (cs 0, 24, .inl S2))], [(b3, .inl (cs 0, 48, .inl S3))], [(b4, .inl (cs 0, 48, .inl S4))], [(b5, .inl (cs 0, 40, .inl S5))], [(b6, .inl (cs 0, 32, .inl S6))], [(b7, .inl (cs 0, 6, .inl S7))], (w_X10 ad (0) cs en S8_311h)]) H → va_D A (fl [[(b1, .inl (cs 0, 8, .inl S1))], [(b2, .inl (cs 0, 24, .inl S2))], [(b3, .inl (cs 0, 48, .inl S3))], [(b4, .inl (cs 0, 48, .inl S4))], [(b5, .inl (cs 0, 40, .inl S5))], [(b6, .inl (cs 0, 32, .inl S6))], [(b7, .inl (cs 0, 6, .inl S7))], (w_X10 ad (0) cs en S8_311h)]) → va_S A s.heap H locs → lv_has ls 13 [(0, .ref (ad 0)), (1, .ref b1), (3, .ref b3), (7, .ref b7), (9, .int v9_311), (10, .int v10_311), (12, .int v12_311)] → W p l e (headSpec wsL_isSo ({ frames := 6, cells := 1, slots := 4, locals := 138 } : Room)).room s m ([.ref (ad 0), .ref b1, .ref b2, .ref b3, .ref b4, .ref b5, .ref b6, .ref b7] : List Value).toArray below meth c H locs 1 4 (MQ below (QI dC dI (tyL cs) A (fl [[(b1, .inl (cs 0, 8, .inl S1))], [(b2, .inl (cs 0, 24, .inl S2))], [(b3, .inl (cs 0, 48, .inl S3))], [(b4, .inl (cs 0, 48, .inl S4))], [(b5, .inl (cs 0, 40, .inl S5))], [(b6, .inl (cs 0, 32, .inl S6))], [(b7, .inl (cs 0, 6, .inl S7))], (w_X10 ad (0) cs en u8)]) r) ([.ref (ad 0), .ref b1, .ref b2, .ref b3, .ref b4, .ref b5, .ref b6, .ref b7] : List Value).toArray s 1 4 A) (F0 m 311 ls [.int t0_311]) := by
            intro S8_311h v9_311 v10_311 v12_311 t0_311 H locs ls hR hP hD hS hl
            refine lv_iconst (v := 0) hx hb dL_isSo_311 ic_0 ?_
            exact hB312 S8_311h v9_311 v10_311 v12_311 t0_311 (0 : Int32) H _ ls hR hP hD hS (lv_sub hl [0, 1, 2, 3, 4, 5, 6] rfl)
          intro S8_271h v9_271 v10_271 v11_271 v12_271 H locs ls hR hP hD hS hl
          rw [fL_isSo_271] at hR
          refine lv_iload hx hb dL_isSo_271 (lv_at hl 7 rfl) ?_
          refine lv_aload_n hx hb dL_isSo_273 rfl (lv_at hl 1 rfl) ?_
          refine lv_iconst (v := 1) hx hb dL_isSo_274 ic_1 ?_
          refine va_iald hx hb hK hP 0 0 rfl rfl vi_1_8 dL_isSo_275 ?_
          refine lv_icmp_ge (tgt := 321) hx hb dL_isSo_276 (by decide) (fun c276 => ?_) (fun c276 => ?_)
          · replace hR := it_t hR c276
            refine lv_aload_n hx hb dL_isSo_321 rfl (lv_at hl 0 rfl) ?_
            refine lv_iload hx hb dL_isSo_322 (lv_at hl 5 rfl) ?_
            refine lv_iconst (v := 0) hx hb dL_isSo_324 ic_0 ?_
            replace hR := bd_e hR
            obtain ⟨q325, gq325, hR⟩ := hR
            refine cm_Vi (As := [.int v10_271, .int (0 : Int32)]) (rest := []) (L := [[(b1, .inl (cs 0, 8, .inl S1))], [(b2, .inl (cs 0, 24, .inl S2))], [(b3, .inl (cs 0, 48, .inl S3))], [(b4, .inl (cs 0, 48, .inl S4))], [(b5, .inl (cs 0, 40, .inl S5))], [(b6, .inl (cs 0, 32, .inl S6))], [(b7, .inl (cs 0, 6, .inl S7))], (w_X10 ad (0) cs en S8_271h)]) (L' := [[(b1, .inl (cs 0, 8, .inl S1))], [(b2, .inl (cs 0, 24, .inl S2))], [(b3, .inl (cs 0, 48, .inl S3))], [(b4, .inl (cs 0, 48, .inl S4))], [(b5, .inl (cs 0, 40, .inl S5))], [(b6, .inl (cs 0, 32, .inl S6))], [(b7, .inl (cs 0, 6, .inl S7))], (w_X10 ad (0) cs en S8_271h)]) (Wc := [(w_X10 ad (0) cs en S8_271h)]) (Wc' := [(w_X10 ad (0) cs en S8_271h)]) (is := [7]) (js := [0, 1, 2, 3, 4, 5, 6]) ⟨hx, hb, hml, hown, hts⟩ (k_X10_vanOf l dC dI cs ad en H.size S8_271h v10_271 (0 : Int32) q325 gq325) (cwV 2 hts gL_isSo_X10_vanOf rfl rfl rfl cd_X10_vanOf ⟨Nat.le_of_ble_eq_true rfl, Nat.le_of_ble_eq_true rfl⟩) hK hP hD hS hA ⟨rfl, rfl, rfl, rfl, rfl, rfl⟩ (jn_nd (is := [7]) hD rfl rfl) 7 8 rfl rfl rfl rfl rfl hl.1 (Nat.le_of_ble_eq_true rfl) dL_isSo_325 ⟨Nat.le_of_ble_eq_true rfl, Nat.le_of_ble_eq_true rfl⟩ (fun H325 locs325 hP' hD' hS' => ?_)
            replace hS := hS'
            replace hP : va_P (dC, dI) vwCl (fl [[(b1, .inl (cs 0, 8, .inl S1))], [(b2, .inl (cs 0, 24, .inl S2))], [(b3, .inl (cs 0, 48, .inl S3))], [(b4, .inl (cs 0, 48, .inl S4))], [(b5, .inl (cs 0, 40, .inl S5))], [(b6, .inl (cs 0, 32, .inl S6))], [(b7, .inl (cs 0, 6, .inl S7))], (w_X10 ad (0) cs en S8_271h)]) H325 := hP'
            replace hD : va_D A (fl [[(b1, .inl (cs 0, 8, .inl S1))], [(b2, .inl (cs 0, 24, .inl S2))], [(b3, .inl (cs 0, 48, .inl S3))], [(b4, .inl (cs 0, 48, .inl S4))], [(b5, .inl (cs 0, 40, .inl S5))], [(b6, .inl (cs 0, 32, .inl S6))], [(b7, .inl (cs 0, 6, .inl S7))], (w_X10 ad (0) cs en S8_271h)]) := hD'
            clear hP' hD' hS'
            refine lv_aload hx hb dL_isSo_328 (lv_at hl 3 rfl) ?_
            refine lv_iconst (v := 3) hx hb dL_isSo_330 ic_3 ?_
            refine lv_iload hx hb dL_isSo_331 (lv_at hl 5 rfl) ?_
            refine lv_imul hx hb dL_isSo_333 ?_
            replace hR := gi_e hR
            obtain ⟨i334, hR⟩ := hR
            refine va_iald hx hb hK hP 6 0 rfl rfl i334 dL_isSo_334 ?_
            refine lv_icmp_ne (tgt := 426) hx hb dL_isSo_335 (by decide) (fun c335 => ?_) (fun c335 => ?_)
            · replace hR := it_f hR c335
              exact hB426 S8_271h v9_271 v10_271 H325 _ ls hR hP hD hS (lv_sub hl [0, 1, 2, 3, 4, 5] rfl)
            · replace hR := it_t hR c335
              refine lv_aload_n hx hb dL_isSo_338 rfl (lv_at hl 0 rfl) ?_
              refine lv_iload hx hb dL_isSo_339 (lv_at hl 5 rfl) ?_
              refine lv_iconst (v := 1) hx hb dL_isSo_341 ic_1 ?_
              replace hR := bd_e hR
              obtain ⟨q342, gq342, hR⟩ := hR
              refine cm_Vi (As := [.int v10_271, .int (1 : Int32)]) (rest := []) (L := [[(b1, .inl (cs 0, 8, .inl S1))], [(b2, .inl (cs 0, 24, .inl S2))], [(b3, .inl (cs 0, 48, .inl S3))], [(b4, .inl (cs 0, 48, .inl S4))], [(b5, .inl (cs 0, 40, .inl S5))], [(b6, .inl (cs 0, 32, .inl S6))], [(b7, .inl (cs 0, 6, .inl S7))], (w_X10 ad (0) cs en S8_271h)]) (L' := [[(b1, .inl (cs 0, 8, .inl S1))], [(b2, .inl (cs 0, 24, .inl S2))], [(b3, .inl (cs 0, 48, .inl S3))], [(b4, .inl (cs 0, 48, .inl S4))], [(b5, .inl (cs 0, 40, .inl S5))], [(b6, .inl (cs 0, 32, .inl S6))], [(b7, .inl (cs 0, 6, .inl S7))], (w_X10 ad (0) cs en S8_271h)]) (Wc := [(w_X10 ad (0) cs en S8_271h)]) (Wc' := [(w_X10 ad (0) cs en S8_271h)]) (is := [7]) (js := [0, 1, 2, 3, 4, 5, 6]) ⟨hx, hb, hml, hown, hts⟩ (k_X10_vanOf l dC dI cs ad en H325.size S8_271h v10_271 (1 : Int32) q342 gq342) (cwV 2 hts gL_isSo_X10_vanOf rfl rfl rfl cd_X10_vanOf ⟨Nat.le_of_ble_eq_true rfl, Nat.le_of_ble_eq_true rfl⟩) hK hP hD hS hA ⟨rfl, rfl, rfl, rfl, rfl, rfl⟩ (jn_nd (is := [7]) hD rfl rfl) 7 8 rfl rfl rfl rfl rfl hl.1 (Nat.le_of_ble_eq_true rfl) dL_isSo_342 ⟨Nat.le_of_ble_eq_true rfl, Nat.le_of_ble_eq_true rfl⟩ (fun H342 locs342 hP' hD' hS' => ?_)
              replace hS := hS'
              replace hP : va_P (dC, dI) vwCl (fl [[(b1, .inl (cs 0, 8, .inl S1))], [(b2, .inl (cs 0, 24, .inl S2))], [(b3, .inl (cs 0, 48, .inl S3))], [(b4, .inl (cs 0, 48, .inl S4))], [(b5, .inl (cs 0, 40, .inl S5))], [(b6, .inl (cs 0, 32, .inl S6))], [(b7, .inl (cs 0, 6, .inl S7))], (w_X10 ad (0) cs en S8_271h)]) H342 := hP'
              replace hD : va_D A (fl [[(b1, .inl (cs 0, 8, .inl S1))], [(b2, .inl (cs 0, 24, .inl S2))], [(b3, .inl (cs 0, 48, .inl S3))], [(b4, .inl (cs 0, 48, .inl S4))], [(b5, .inl (cs 0, 40, .inl S5))], [(b6, .inl (cs 0, 32, .inl S6))], [(b7, .inl (cs 0, 6, .inl S7))], (w_X10 ad (0) cs en S8_271h)]) := hD'
              clear hP' hD' hS'
              refine lv_aload hx hb dL_isSo_345 (lv_at hl 3 rfl) ?_
              refine lv_iconst (v := 3) hx hb dL_isSo_347 ic_3 ?_
              refine lv_iload hx hb dL_isSo_348 (lv_at hl 5 rfl) ?_
              refine lv_imul hx hb dL_isSo_350 ?_
              refine lv_iconst (v := 1) hx hb dL_isSo_351 ic_1 ?_
              refine lv_iadd hx hb dL_isSo_352 ?_
              replace hR := gi_e hR
              obtain ⟨i353, hR⟩ := hR
              refine va_iald hx hb hK hP 6 0 rfl rfl i353 dL_isSo_353 ?_
              refine lv_icmp_ne (tgt := 426) hx hb dL_isSo_354 (by decide) (fun c354 => ?_) (fun c354 => ?_)
              · replace hR := it_f hR c354
                exact hB426 S8_271h v9_271 v10_271 H342 _ ls hR hP hD hS (lv_sub hl [0, 1, 2, 3, 4, 5] rfl)
              · replace hR := it_t hR c354
                refine lv_aload_n hx hb dL_isSo_357 rfl (lv_at hl 0 rfl) ?_
                refine lv_iload hx hb dL_isSo_358 (lv_at hl 5 rfl) ?_
                refine lv_iconst (v := 2) hx hb dL_isSo_360 ic_2 ?_
                replace hR := bd_e hR
                obtain ⟨q361, gq361, hR⟩ := hR
                refine cm_Vi (As := [.int v10_271, .int (2 : Int32)]) (rest := []) (L := [[(b1, .inl (cs 0, 8, .inl S1))], [(b2, .inl (cs 0, 24, .inl S2))], [(b3, .inl (cs 0, 48, .inl S3))], [(b4, .inl (cs 0, 48, .inl S4))], [(b5, .inl (cs 0, 40, .inl S5))], [(b6, .inl (cs 0, 32, .inl S6))], [(b7, .inl (cs 0, 6, .inl S7))], (w_X10 ad (0) cs en S8_271h)]) (L' := [[(b1, .inl (cs 0, 8, .inl S1))], [(b2, .inl (cs 0, 24, .inl S2))], [(b3, .inl (cs 0, 48, .inl S3))], [(b4, .inl (cs 0, 48, .inl S4))], [(b5, .inl (cs 0, 40, .inl S5))], [(b6, .inl (cs 0, 32, .inl S6))], [(b7, .inl (cs 0, 6, .inl S7))], (w_X10 ad (0) cs en S8_271h)]) (Wc := [(w_X10 ad (0) cs en S8_271h)]) (Wc' := [(w_X10 ad (0) cs en S8_271h)]) (is := [7]) (js := [0, 1, 2, 3, 4, 5, 6]) ⟨hx, hb, hml, hown, hts⟩ (k_X10_vanOf l dC dI cs ad en H342.size S8_271h v10_271 (2 : Int32) q361 gq361) (cwV 2 hts gL_isSo_X10_vanOf rfl rfl rfl cd_X10_vanOf ⟨Nat.le_of_ble_eq_true rfl, Nat.le_of_ble_eq_true rfl⟩) hK hP hD hS hA ⟨rfl, rfl, rfl, rfl, rfl, rfl⟩ (jn_nd (is := [7]) hD rfl rfl) 7 8 rfl rfl rfl rfl rfl hl.1 (Nat.le_of_ble_eq_true rfl) dL_isSo_361 ⟨Nat.le_of_ble_eq_true rfl, Nat.le_of_ble_eq_true rfl⟩ (fun H361 locs361 hP' hD' hS' => ?_)
                replace hS := hS'
                replace hP : va_P (dC, dI) vwCl (fl [[(b1, .inl (cs 0, 8, .inl S1))], [(b2, .inl (cs 0, 24, .inl S2))], [(b3, .inl (cs 0, 48, .inl S3))], [(b4, .inl (cs 0, 48, .inl S4))], [(b5, .inl (cs 0, 40, .inl S5))], [(b6, .inl (cs 0, 32, .inl S6))], [(b7, .inl (cs 0, 6, .inl S7))], (w_X10 ad (0) cs en S8_271h)]) H361 := hP'
                replace hD : va_D A (fl [[(b1, .inl (cs 0, 8, .inl S1))], [(b2, .inl (cs 0, 24, .inl S2))], [(b3, .inl (cs 0, 48, .inl S3))], [(b4, .inl (cs 0, 48, .inl S4))], [(b5, .inl (cs 0, 40, .inl S5))], [(b6, .inl (cs 0, 32, .inl S6))], [(b7, .inl (cs 0, 6, .inl S7))], (w_X10 ad (0) cs en S8_271h)]) := hD'
                clear hP' hD' hS'
                refine lv_iload hx hb dL_isSo_364 (lv_at hl 6 rfl) ?_
                refine lv_icmp_ne (tgt := 426) hx hb dL_isSo_366 (by decide) (fun c366 => ?_) (fun c366 => ?_)
                · replace hR := it_f hR c366
                  exact hB426 S8_271h v9_271 v10_271 H361 _ ls hR hP hD hS (lv_sub hl [0, 1, 2, 3, 4, 5] rfl)
                · replace hR := it_t hR c366
                  refine lv_aload_n hx hb dL_isSo_369 rfl (lv_at hl 0 rfl) ?_
                  refine lv_iload hx hb dL_isSo_370 (lv_at hl 5 rfl) ?_
                  refine lv_iconst (v := 3) hx hb dL_isSo_372 ic_3 ?_
                  replace hR := bd_e hR
                  obtain ⟨q373, gq373, hR⟩ := hR
                  refine cm_Vi (As := [.int v10_271, .int (3 : Int32)]) (rest := []) (L := [[(b1, .inl (cs 0, 8, .inl S1))], [(b2, .inl (cs 0, 24, .inl S2))], [(b3, .inl (cs 0, 48, .inl S3))], [(b4, .inl (cs 0, 48, .inl S4))], [(b5, .inl (cs 0, 40, .inl S5))], [(b6, .inl (cs 0, 32, .inl S6))], [(b7, .inl (cs 0, 6, .inl S7))], (w_X10 ad (0) cs en S8_271h)]) (L' := [[(b1, .inl (cs 0, 8, .inl S1))], [(b2, .inl (cs 0, 24, .inl S2))], [(b3, .inl (cs 0, 48, .inl S3))], [(b4, .inl (cs 0, 48, .inl S4))], [(b5, .inl (cs 0, 40, .inl S5))], [(b6, .inl (cs 0, 32, .inl S6))], [(b7, .inl (cs 0, 6, .inl S7))], (w_X10 ad (0) cs en S8_271h)]) (Wc := [(w_X10 ad (0) cs en S8_271h)]) (Wc' := [(w_X10 ad (0) cs en S8_271h)]) (is := [7]) (js := [0, 1, 2, 3, 4, 5, 6]) ⟨hx, hb, hml, hown, hts⟩ (k_X10_vanOf l dC dI cs ad en H361.size S8_271h v10_271 (3 : Int32) q373 gq373) (cwV 2 hts gL_isSo_X10_vanOf rfl rfl rfl cd_X10_vanOf ⟨Nat.le_of_ble_eq_true rfl, Nat.le_of_ble_eq_true rfl⟩) hK hP hD hS hA ⟨rfl, rfl, rfl, rfl, rfl, rfl⟩ (jn_nd (is := [7]) hD rfl rfl) 7 8 rfl rfl rfl rfl rfl hl.1 (Nat.le_of_ble_eq_true rfl) dL_isSo_373 ⟨Nat.le_of_ble_eq_true rfl, Nat.le_of_ble_eq_true rfl⟩ (fun H373 locs373 hP' hD' hS' => ?_)
                  replace hS := hS'
                  replace hP : va_P (dC, dI) vwCl (fl [[(b1, .inl (cs 0, 8, .inl S1))], [(b2, .inl (cs 0, 24, .inl S2))], [(b3, .inl (cs 0, 48, .inl S3))], [(b4, .inl (cs 0, 48, .inl S4))], [(b5, .inl (cs 0, 40, .inl S5))], [(b6, .inl (cs 0, 32, .inl S6))], [(b7, .inl (cs 0, 6, .inl S7))], (w_X10 ad (0) cs en S8_271h)]) H373 := hP'
                  replace hD : va_D A (fl [[(b1, .inl (cs 0, 8, .inl S1))], [(b2, .inl (cs 0, 24, .inl S2))], [(b3, .inl (cs 0, 48, .inl S3))], [(b4, .inl (cs 0, 48, .inl S4))], [(b5, .inl (cs 0, 40, .inl S5))], [(b6, .inl (cs 0, 32, .inl S6))], [(b7, .inl (cs 0, 6, .inl S7))], (w_X10 ad (0) cs en S8_271h)]) := hD'
                  clear hP' hD' hS'
                  refine lv_aload hx hb dL_isSo_376 (lv_at hl 3 rfl) ?_
                  refine lv_iconst (v := 3) hx hb dL_isSo_378 ic_3 ?_
                  refine lv_iload hx hb dL_isSo_379 (lv_at hl 5 rfl) ?_
                  refine lv_imul hx hb dL_isSo_381 ?_
                  refine lv_iconst (v := 2) hx hb dL_isSo_382 ic_2 ?_
                  refine lv_iadd hx hb dL_isSo_383 ?_
                  replace hR := gi_e hR
                  obtain ⟨i384, hR⟩ := hR
                  refine va_iald hx hb hK hP 6 0 rfl rfl i384 dL_isSo_384 ?_
                  refine lv_aload_n hx hb dL_isSo_385 rfl (lv_at hl 1 rfl) ?_
                  refine lv_iconst (v := 4) hx hb dL_isSo_386 ic_4 ?_
                  refine va_iald hx hb hK hP 0 0 rfl rfl vi_4_8 dL_isSo_387 ?_
                  refine lv_icmp_le (tgt := 407) hx hb dL_isSo_388 (by decide) (fun c388 => ?_) (fun c388 => ?_)
                  · replace hR := it_t hR c388
                    refine lv_iconst (v := 0) hx hb dL_isSo_407 ic_0 ?_
                    exact hB408 S8_271h v9_271 v10_271 q373 (0 : Int32) H373 _ ls hR hP hD hS (lv_sub hl [0, 1, 2, 3, 4, 5] rfl)
                  · replace hR := it_f hR c388
                    refine lv_aload hx hb dL_isSo_391 (lv_at hl 3 rfl) ?_
                    refine lv_iconst (v := 3) hx hb dL_isSo_393 ic_3 ?_
                    refine lv_iload hx hb dL_isSo_394 (lv_at hl 5 rfl) ?_
                    refine lv_imul hx hb dL_isSo_396 ?_
                    refine lv_iconst (v := 2) hx hb dL_isSo_397 ic_2 ?_
                    refine lv_iadd hx hb dL_isSo_398 ?_
                    replace hR := gi_e hR
                    obtain ⟨i399, hR⟩ := hR
                    refine va_iald hx hb hK hP 6 0 rfl rfl i399 dL_isSo_399 ?_
                    refine lv_aload_n hx hb dL_isSo_400 rfl (lv_at hl 1 rfl) ?_
                    refine lv_iconst (v := 4) hx hb dL_isSo_401 ic_4 ?_
                    refine va_iald hx hb hK hP 0 0 rfl rfl vi_4_8 dL_isSo_402 ?_
                    refine lv_isub hx hb dL_isSo_403 ?_
                    refine lv_goto (tgt := 408) hx hb dL_isSo_404 (by decide) ?_
                    exact hB408 S8_271h v9_271 v10_271 q373 ((S7  (((3 : Int32) * v10_271) + 2).toNatClampNeg) - (S1  (4 : Int32).toNatClampNeg)) H373 _ ls hR hP hD hS (lv_sub hl [0, 1, 2, 3, 4, 5] rfl)
          · replace hR := it_f hR c276
            refine lv_iload hx hb dL_isSo_279 (lv_at hl 6 rfl) ?_
            refine lv_aload_n hx hb dL_isSo_281 rfl (lv_at hl 2 rfl) ?_
            refine lv_iconst (v := 3) hx hb dL_isSo_282 ic_3 ?_
            refine lv_iload hx hb dL_isSo_283 (lv_at hl 7 rfl) ?_
            refine lv_imul hx hb dL_isSo_285 ?_
            replace hR := gi_e hR
            obtain ⟨i286, hR⟩ := hR
            refine va_iald hx hb hK hP 2 0 rfl rfl i286 dL_isSo_286 ?_
            refine lv_iconst (v := 2) hx hb dL_isSo_287 ic_2 ?_
            refine lv_icmp_ne (tgt := 311) hx hb dL_isSo_288 (by decide) (fun c288 => ?_) (fun c288 => ?_)
            · replace hR := it_f hR c288
              exact hB311 S8_271h v9_271 v10_271 v12_271 v11_271 H _ ls hR hP hD hS (lv_sub hl [0, 1, 2, 3, 4, 5, 7] rfl)
            · replace hR := it_t hR c288
              refine lv_aload_n hx hb dL_isSo_291 rfl (lv_at hl 2 rfl) ?_
              refine lv_iconst (v := 3) hx hb dL_isSo_292 ic_3 ?_
              refine lv_iload hx hb dL_isSo_293 (lv_at hl 7 rfl) ?_
              refine lv_imul hx hb dL_isSo_295 ?_
              refine lv_iconst (v := 1) hx hb dL_isSo_296 ic_1 ?_
              refine lv_iadd hx hb dL_isSo_297 ?_
              replace hR := gi_e hR
              obtain ⟨i298, hR⟩ := hR
              refine va_iald hx hb hK hP 2 0 rfl rfl i298 dL_isSo_298 ?_
              refine lv_iload hx hb dL_isSo_299 (lv_at hl 5 rfl) ?_
              refine lv_icmp_ne (tgt := 311) hx hb dL_isSo_301 (by decide) (fun c301 => ?_) (fun c301 => ?_)
              · replace hR := it_f hR c301
                exact hB311 S8_271h v9_271 v10_271 v12_271 v11_271 H _ ls hR hP hD hS (lv_sub hl [0, 1, 2, 3, 4, 5, 7] rfl)
              · replace hR := it_t hR c301
                refine lv_iconst (v := 1) hx hb dL_isSo_304 ic_1 ?_
                refine lv_iload hx hb dL_isSo_305 (lv_at hl 7 rfl) ?_
                refine lv_ishl hx hb dL_isSo_307 ?_
                refine lv_goto (tgt := 312) hx hb dL_isSo_308 (by decide) ?_
                exact hB312 S8_271h v9_271 v10_271 v12_271 v11_271 ((1 : Int32) <<< (v12_271 &&& 31)) H _ ls hR hP hD hS (lv_sub hl [0, 1, 2, 3, 4, 5, 7] rfl)
      intro S8_252h v8_252 v9_252 v10_252 H locs ls hR hP hD hS hl
      rw [fL_isSo_252] at hR
      refine lv_iload hx hb dL_isSo_252 (lv_at hl 6 rfl) ?_
      refine lv_aload_n hx hb dL_isSo_254 rfl (lv_at hl 1 rfl) ?_
      refine lv_iconst (v := 3) hx hb dL_isSo_255 ic_3 ?_
      refine va_iald hx hb hK hP 0 0 rfl rfl vi_3_8 dL_isSo_256 ?_
      refine lv_icmp_ge (tgt := 435) hx hb dL_isSo_257 (by decide) (fun c257 => ?_) (fun c257 => ?_)
      · replace hR := it_t hR c257
        exact hB435 S8_252h v8_252 v9_252 H _ ls hR hP hD hS (lv_sub hl [0, 1, 4, 5] rfl)
      · replace hR := it_f hR c257
        refine lv_iload hx hb dL_isSo_260 (lv_at hl 4 rfl) ?_
        refine lv_if_eq (tgt := 435) hx hb dL_isSo_262 (by decide) (fun c262 => ?_) (fun c262 => ?_)
        · replace hR := it_t hR c262
          exact hB435 S8_252h v8_252 v9_252 H _ ls hR hP hD hS (lv_sub hl [0, 1, 4, 5] rfl)
        · replace hR := it_f hR c262
          refine lv_iconst (v := 0) hx hb dL_isSo_265 ic_0 ?_
          refine lv_istore (lv' := [(11, .int (0 : Int32)), (0, .ref (ad 0)), (1, .ref b1), (3, .ref b3), (7, .ref b7), (8, .int v8_252), (9, .int v9_252), (10, .int v10_252)]) hx hb dL_isSo_266 hl (Nat.le_of_ble_eq_true rfl) rfl (fun ls hl => ?_)
          refine lv_iconst (v := 0) hx hb dL_isSo_268 ic_0 ?_
          refine lv_istore (lv' := [(12, .int (0 : Int32)), (11, .int (0 : Int32)), (0, .ref (ad 0)), (1, .ref b1), (3, .ref b3), (7, .ref b7), (8, .int v8_252), (9, .int v9_252), (10, .int v10_252)]) hx hb dL_isSo_269 hl (Nat.le_of_ble_eq_true rfl) rfl (fun ls hl => ?_)
          exact hB271 fuel S8_252h v9_252 v10_252 (0 : Int32) (0 : Int32) H _ ls hR hP hD hS (lv_sub hl [2, 3, 4, 5, 7, 8, 1, 0] rfl)
  have hB249 : ∀ (S8_249h : T5) (v8_249 : Int32) (v9_249 : Int32) (H : Heap) (locs : List Loc) (ls : Array Slot), fL_isSo_249 S1 S2 S3 S4 S5 S6 S7 S8_249h v8_249 v9_249 = some (r, u8) → va_P (dC, dI) vwCl (fl [[(b1, .inl (cs 0, 8, .inl S1))], [(b2, .inl (cs 0, 24, .inl S2))], [(b3, .inl (cs 0, 48, .inl S3))], [(b4, .inl (cs 0, 48, .inl S4))], [(b5, .inl (cs 0, 40, .inl S5))], [(b6, .inl (cs 0, 32, .inl S6))], [(b7, .inl (cs 0, 6, .inl S7))], (w_X10 ad (0) cs en S8_249h)]) H → va_D A (fl [[(b1, .inl (cs 0, 8, .inl S1))], [(b2, .inl (cs 0, 24, .inl S2))], [(b3, .inl (cs 0, 48, .inl S3))], [(b4, .inl (cs 0, 48, .inl S4))], [(b5, .inl (cs 0, 40, .inl S5))], [(b6, .inl (cs 0, 32, .inl S6))], [(b7, .inl (cs 0, 6, .inl S7))], (w_X10 ad (0) cs en S8_249h)]) → va_S A s.heap H locs → lv_has ls 13 [(0, .ref (ad 0)), (1, .ref b1), (3, .ref b3), (7, .ref b7), (8, .int v8_249), (9, .int v9_249)] → W p l e (headSpec wsL_isSo ({ frames := 6, cells := 1, slots := 4, locals := 138 } : Room)).room s m ([.ref (ad 0), .ref b1, .ref b2, .ref b3, .ref b4, .ref b5, .ref b6, .ref b7] : List Value).toArray below meth c H locs 1 4 (MQ below (QI dC dI (tyL cs) A (fl [[(b1, .inl (cs 0, 8, .inl S1))], [(b2, .inl (cs 0, 24, .inl S2))], [(b3, .inl (cs 0, 48, .inl S3))], [(b4, .inl (cs 0, 48, .inl S4))], [(b5, .inl (cs 0, 40, .inl S5))], [(b6, .inl (cs 0, 32, .inl S6))], [(b7, .inl (cs 0, 6, .inl S7))], (w_X10 ad (0) cs en u8)]) r) ([.ref (ad 0), .ref b1, .ref b2, .ref b3, .ref b4, .ref b5, .ref b6, .ref b7] : List Value).toArray s 1 4 A) (F0 m 249 ls []) := by
    intro S8_249h v8_249 v9_249 H locs ls hR hP hD hS hl
    refine lv_iconst (v := 0) hx hb dL_isSo_249 ic_0 ?_
    refine lv_istore (lv' := [(10, .int (0 : Int32)), (0, .ref (ad 0)), (1, .ref b1), (3, .ref b3), (7, .ref b7), (8, .int v8_249), (9, .int v9_249)]) hx hb dL_isSo_250 hl (Nat.le_of_ble_eq_true rfl) rfl (fun ls hl => ?_)
    exact hB252 fuel S8_249h v8_249 v9_249 (0 : Int32) H _ ls hR hP hD hS (lv_sub hl [1, 2, 3, 4, 5, 6, 0] rfl)
  have hB60 : ∀ (n60 : Nat), ∀ (S8_60h : T5) (v8_60 : Int32) (v9_60 : Int32) (v10_60 : Int32) (H : Heap) (locs : List Loc) (ls : Array Slot), fL_isSo_60 S1 S2 S3 S4 S5 S6 S7 n60 S8_60h v8_60 v9_60 v10_60 = some (r, u8) → va_P (dC, dI) vwCl (fl [[(b1, .inl (cs 0, 8, .inl S1))], [(b2, .inl (cs 0, 24, .inl S2))], [(b3, .inl (cs 0, 48, .inl S3))], [(b4, .inl (cs 0, 48, .inl S4))], [(b5, .inl (cs 0, 40, .inl S5))], [(b6, .inl (cs 0, 32, .inl S6))], [(b7, .inl (cs 0, 6, .inl S7))], (w_X10 ad (0) cs en S8_60h)]) H → va_D A (fl [[(b1, .inl (cs 0, 8, .inl S1))], [(b2, .inl (cs 0, 24, .inl S2))], [(b3, .inl (cs 0, 48, .inl S3))], [(b4, .inl (cs 0, 48, .inl S4))], [(b5, .inl (cs 0, 40, .inl S5))], [(b6, .inl (cs 0, 32, .inl S6))], [(b7, .inl (cs 0, 6, .inl S7))], (w_X10 ad (0) cs en S8_60h)]) → va_S A s.heap H locs → lv_has ls 13 [(0, .ref (ad 0)), (1, .ref b1), (2, .ref b2), (3, .ref b3), (7, .ref b7), (8, .int v8_60), (9, .int v9_60), (10, .int v10_60)] → W p l e (headSpec wsL_isSo ({ frames := 6, cells := 1, slots := 4, locals := 138 } : Room)).room s m ([.ref (ad 0), .ref b1, .ref b2, .ref b3, .ref b4, .ref b5, .ref b6, .ref b7] : List Value).toArray below meth c H locs 1 4 (MQ below (QI dC dI (tyL cs) A (fl [[(b1, .inl (cs 0, 8, .inl S1))], [(b2, .inl (cs 0, 24, .inl S2))], [(b3, .inl (cs 0, 48, .inl S3))], [(b4, .inl (cs 0, 48, .inl S4))], [(b5, .inl (cs 0, 40, .inl S5))], [(b6, .inl (cs 0, 32, .inl S6))], [(b7, .inl (cs 0, 6, .inl S7))], (w_X10 ad (0) cs en u8)]) r) ([.ref (ad 0), .ref b1, .ref b2, .ref b3, .ref b4, .ref b5, .ref b6, .ref b7] : List Value).toArray s 1 4 A) (F0 m 60 ls []) := by
    intro n60
    induction n60 with
    | zero =>
      intro S8_60h v8_60 v9_60 v10_60 H locs ls hR hP hD hS hl
      exact nn_e hR
    | succ n60 hI60 =>
      have hB241 : ∀ (S8_241h : T5) (v9_241 : Int32) (v10_241 : Int32) (t0_241 : Int32) (H : Heap) (locs : List Loc) (ls : Array Slot), fL_isSo_241 (fL_isSo_60 S1 S2 S3 S4 S5 S6 S7 n60) S1 S2 S3 S4 S5 S6 S7 S8_241h v9_241 v10_241 t0_241 = some (r, u8) → va_P (dC, dI) vwCl (fl [[(b1, .inl (cs 0, 8, .inl S1))], [(b2, .inl (cs 0, 24, .inl S2))], [(b3, .inl (cs 0, 48, .inl S3))], [(b4, .inl (cs 0, 48, .inl S4))], [(b5, .inl (cs 0, 40, .inl S5))], [(b6, .inl (cs 0, 32, .inl S6))], [(b7, .inl (cs 0, 6, .inl S7))], (w_X10 ad (0) cs en S8_241h)]) H → va_D A (fl [[(b1, .inl (cs 0, 8, .inl S1))], [(b2, .inl (cs 0, 24, .inl S2))], [(b3, .inl (cs 0, 48, .inl S3))], [(b4, .inl (cs 0, 48, .inl S4))], [(b5, .inl (cs 0, 40, .inl S5))], [(b6, .inl (cs 0, 32, .inl S6))], [(b7, .inl (cs 0, 6, .inl S7))], (w_X10 ad (0) cs en S8_241h)]) → va_S A s.heap H locs → lv_has ls 13 [(0, .ref (ad 0)), (1, .ref b1), (2, .ref b2), (3, .ref b3), (7, .ref b7), (9, .int v9_241), (10, .int v10_241)] → W p l e (headSpec wsL_isSo ({ frames := 6, cells := 1, slots := 4, locals := 138 } : Room)).room s m ([.ref (ad 0), .ref b1, .ref b2, .ref b3, .ref b4, .ref b5, .ref b6, .ref b7] : List Value).toArray below meth c H locs 1 4 (MQ below (QI dC dI (tyL cs) A (fl [[(b1, .inl (cs 0, 8, .inl S1))], [(b2, .inl (cs 0, 24, .inl S2))], [(b3, .inl (cs 0, 48, .inl S3))], [(b4, .inl (cs 0, 48, .inl S4))], [(b5, .inl (cs 0, 40, .inl S5))], [(b6, .inl (cs 0, 32, .inl S6))], [(b7, .inl (cs 0, 6, .inl S7))], (w_X10 ad (0) cs en u8)]) r) ([.ref (ad 0), .ref b1, .ref b2, .ref b3, .ref b4, .ref b5, .ref b6, .ref b7] : List Value).toArray s 1 4 A) (F0 m 241 ls [.int t0_241]) := by
        intro S8_241h v9_241 v10_241 t0_241 H locs ls hR hP hD hS hl
        refine lv_istore (lv' := [(8, .int t0_241), (0, .ref (ad 0)), (1, .ref b1), (2, .ref b2), (3, .ref b3), (7, .ref b7), (9, .int v9_241), (10, .int v10_241)]) hx hb dL_isSo_241 hl (Nat.le_of_ble_eq_true rfl) rfl (fun ls hl => ?_)
        refine lv_iinc (v := (v10_241 + 1)) (lv' := [(10, .int (v10_241 + 1)), (8, .int t0_241), (0, .ref (ad 0)), (1, .ref b1), (2, .ref b2), (3, .ref b3), (7, .ref b7), (9, .int v9_241)]) hx hb dL_isSo_243 hl (k := 7) rfl rfl (Nat.le_of_ble_eq_true rfl) rfl (fun ls hl => ?_)
        refine lv_goto (tgt := 60) hx hb dL_isSo_246 (by decide) ?_
        exact hI60 S8_241h t0_241 v9_241 (v10_241 + 1) H _ ls hR hP hD hS (lv_sub hl [2, 3, 4, 5, 6, 1, 7, 0] rfl)
      have hB240 : ∀ (S8_240h : T5) (v9_240 : Int32) (v10_240 : Int32) (H : Heap) (locs : List Loc) (ls : Array Slot), fL_isSo_240 (fL_isSo_60 S1 S2 S3 S4 S5 S6 S7 n60) S1 S2 S3 S4 S5 S6 S7 S8_240h v9_240 v10_240 = some (r, u8) → va_P (dC, dI) vwCl (fl [[(b1, .inl (cs 0, 8, .inl S1))], [(b2, .inl (cs 0, 24, .inl S2))], [(b3, .inl (cs 0, 48, .inl S3))], [(b4, .inl (cs 0, 48, .inl S4))], [(b5, .inl (cs 0, 40, .inl S5))], [(b6, .inl (cs 0, 32, .inl S6))], [(b7, .inl (cs 0, 6, .inl S7))], (w_X10 ad (0) cs en S8_240h)]) H → va_D A (fl [[(b1, .inl (cs 0, 8, .inl S1))], [(b2, .inl (cs 0, 24, .inl S2))], [(b3, .inl (cs 0, 48, .inl S3))], [(b4, .inl (cs 0, 48, .inl S4))], [(b5, .inl (cs 0, 40, .inl S5))], [(b6, .inl (cs 0, 32, .inl S6))], [(b7, .inl (cs 0, 6, .inl S7))], (w_X10 ad (0) cs en S8_240h)]) → va_S A s.heap H locs → lv_has ls 13 [(0, .ref (ad 0)), (1, .ref b1), (2, .ref b2), (3, .ref b3), (7, .ref b7), (9, .int v9_240), (10, .int v10_240)] → W p l e (headSpec wsL_isSo ({ frames := 6, cells := 1, slots := 4, locals := 138 } : Room)).room s m ([.ref (ad 0), .ref b1, .ref b2, .ref b3, .ref b4, .ref b5, .ref b6, .ref b7] : List Value).toArray below meth c H locs 1 4 (MQ below (QI dC dI (tyL cs) A (fl [[(b1, .inl (cs 0, 8, .inl S1))], [(b2, .inl (cs 0, 24, .inl S2))], [(b3, .inl (cs 0, 48, .inl S3))], [(b4, .inl (cs 0, 48, .inl S4))], [(b5, .inl (cs 0, 40, .inl S5))], [(b6, .inl (cs 0, 32, .inl S6))], [(b7, .inl (cs 0, 6, .inl S7))], (w_X10 ad (0) cs en u8)]) r) ([.ref (ad 0), .ref b1, .ref b2, .ref b3, .ref b4, .ref b5, .ref b6, .ref b7] : List Value).toArray s 1 4 A) (F0 m 240 ls []) := by
        intro S8_240h v9_240 v10_240 H locs ls hR hP hD hS hl
        refine lv_iconst (v := 0) hx hb dL_isSo_240 ic_0 ?_
        exact hB241 S8_240h v9_240 v10_240 (0 : Int32) H _ ls hR hP hD hS (lv_sub hl [0, 1, 2, 3, 4, 5, 6] rfl)
      have hB79 : ∀ (n79 : Nat), ∀ (S8_79h : T5) (v9_79 : Int32) (v10_79 : Int32) (v11_79 : Int32) (v12_79 : Int32) (H : Heap) (locs : List Loc) (ls : Array Slot), fL_isSo_79 (fL_isSo_60 S1 S2 S3 S4 S5 S6 S7 n60) S1 S2 S3 S4 S5 S6 S7 n79 S8_79h v9_79 v10_79 v11_79 v12_79 = some (r, u8) → va_P (dC, dI) vwCl (fl [[(b1, .inl (cs 0, 8, .inl S1))], [(b2, .inl (cs 0, 24, .inl S2))], [(b3, .inl (cs 0, 48, .inl S3))], [(b4, .inl (cs 0, 48, .inl S4))], [(b5, .inl (cs 0, 40, .inl S5))], [(b6, .inl (cs 0, 32, .inl S6))], [(b7, .inl (cs 0, 6, .inl S7))], (w_X10 ad (0) cs en S8_79h)]) H → va_D A (fl [[(b1, .inl (cs 0, 8, .inl S1))], [(b2, .inl (cs 0, 24, .inl S2))], [(b3, .inl (cs 0, 48, .inl S3))], [(b4, .inl (cs 0, 48, .inl S4))], [(b5, .inl (cs 0, 40, .inl S5))], [(b6, .inl (cs 0, 32, .inl S6))], [(b7, .inl (cs 0, 6, .inl S7))], (w_X10 ad (0) cs en S8_79h)]) → va_S A s.heap H locs → lv_has ls 13 [(0, .ref (ad 0)), (1, .ref b1), (2, .ref b2), (3, .ref b3), (7, .ref b7), (9, .int v9_79), (10, .int v10_79), (11, .int v11_79), (12, .int v12_79)] → W p l e (headSpec wsL_isSo ({ frames := 6, cells := 1, slots := 4, locals := 138 } : Room)).room s m ([.ref (ad 0), .ref b1, .ref b2, .ref b3, .ref b4, .ref b5, .ref b6, .ref b7] : List Value).toArray below meth c H locs 1 4 (MQ below (QI dC dI (tyL cs) A (fl [[(b1, .inl (cs 0, 8, .inl S1))], [(b2, .inl (cs 0, 24, .inl S2))], [(b3, .inl (cs 0, 48, .inl S3))], [(b4, .inl (cs 0, 48, .inl S4))], [(b5, .inl (cs 0, 40, .inl S5))], [(b6, .inl (cs 0, 32, .inl S6))], [(b7, .inl (cs 0, 6, .inl S7))], (w_X10 ad (0) cs en u8)]) r) ([.ref (ad 0), .ref b1, .ref b2, .ref b3, .ref b4, .ref b5, .ref b6, .ref b7] : List Value).toArray s 1 4 A) (F0 m 79 ls []) := by
        intro n79
        induction n79 with
        | zero =>
          intro S8_79h v9_79 v10_79 v11_79 v12_79 H locs ls hR hP hD hS hl
          exact nn_e hR
        | succ n79 hI79 =>
          have hB119 : ∀ (S8_119h : T5) (v9_119 : Int32) (v10_119 : Int32) (v12_119 : Int32) (t0_119 : Int32) (t1_119 : Int32) (H : Heap) (locs : List Loc) (ls : Array Slot), fL_isSo_119 (fL_isSo_60 S1 S2 S3 S4 S5 S6 S7 n60) (fL_isSo_79 (fL_isSo_60 S1 S2 S3 S4 S5 S6 S7 n60) S1 S2 S3 S4 S5 S6 S7 n79) S1 S2 S3 S4 S5 S6 S7 S8_119h v9_119 v10_119 v12_119 t0_119 t1_119 = some (r, u8) → va_P (dC, dI) vwCl (fl [[(b1, .inl (cs 0, 8, .inl S1))], [(b2, .inl (cs 0, 24, .inl S2))], [(b3, .inl (cs 0, 48, .inl S3))], [(b4, .inl (cs 0, 48, .inl S4))], [(b5, .inl (cs 0, 40, .inl S5))], [(b6, .inl (cs 0, 32, .inl S6))], [(b7, .inl (cs 0, 6, .inl S7))], (w_X10 ad (0) cs en S8_119h)]) H → va_D A (fl [[(b1, .inl (cs 0, 8, .inl S1))], [(b2, .inl (cs 0, 24, .inl S2))], [(b3, .inl (cs 0, 48, .inl S3))], [(b4, .inl (cs 0, 48, .inl S4))], [(b5, .inl (cs 0, 40, .inl S5))], [(b6, .inl (cs 0, 32, .inl S6))], [(b7, .inl (cs 0, 6, .inl S7))], (w_X10 ad (0) cs en S8_119h)]) → va_S A s.heap H locs → lv_has ls 13 [(0, .ref (ad 0)), (1, .ref b1), (2, .ref b2), (3, .ref b3), (7, .ref b7), (9, .int v9_119), (10, .int v10_119), (12, .int v12_119)] → W p l e (headSpec wsL_isSo ({ frames := 6, cells := 1, slots := 4, locals := 138 } : Room)).room s m ([.ref (ad 0), .ref b1, .ref b2, .ref b3, .ref b4, .ref b5, .ref b6, .ref b7] : List Value).toArray below meth c H locs 1 4 (MQ below (QI dC dI (tyL cs) A (fl [[(b1, .inl (cs 0, 8, .inl S1))], [(b2, .inl (cs 0, 24, .inl S2))], [(b3, .inl (cs 0, 48, .inl S3))], [(b4, .inl (cs 0, 48, .inl S4))], [(b5, .inl (cs 0, 40, .inl S5))], [(b6, .inl (cs 0, 32, .inl S6))], [(b7, .inl (cs 0, 6, .inl S7))], (w_X10 ad (0) cs en u8)]) r) ([.ref (ad 0), .ref b1, .ref b2, .ref b3, .ref b4, .ref b5, .ref b6, .ref b7] : List Value).toArray s 1 4 A) (F0 m 119 ls [.int t1_119, .int t0_119]) := by
            intro S8_119h v9_119 v10_119 v12_119 t0_119 t1_119 H locs ls hR hP hD hS hl
            refine lv_iadd hx hb dL_isSo_119 ?_
            refine lv_istore (lv' := [(11, .int (t0_119 + t1_119)), (0, .ref (ad 0)), (1, .ref b1), (2, .ref b2), (3, .ref b3), (7, .ref b7), (9, .int v9_119), (10, .int v10_119), (12, .int v12_119)]) hx hb dL_isSo_120 hl (Nat.le_of_ble_eq_true rfl) rfl (fun ls hl => ?_)
            refine lv_iinc (v := (v12_119 + 1)) (lv' := [(12, .int (v12_119 + 1)), (11, .int (t0_119 + t1_119)), (0, .ref (ad 0)), (1, .ref b1), (2, .ref b2), (3, .ref b3), (7, .ref b7), (9, .int v9_119), (10, .int v10_119)]) hx hb dL_isSo_122 hl (k := 8) rfl rfl (Nat.le_of_ble_eq_true rfl) rfl (fun ls hl => ?_)
            refine lv_goto (tgt := 79) hx hb dL_isSo_125 (by decide) ?_
            exact hI79 S8_119h v9_119 v10_119 (t0_119 + t1_119) (v12_119 + 1) H _ ls hR hP hD hS (lv_sub hl [2, 3, 4, 5, 6, 7, 8, 1, 0] rfl)
          have hB118 : ∀ (S8_118h : T5) (v9_118 : Int32) (v10_118 : Int32) (v12_118 : Int32) (t0_118 : Int32) (H : Heap) (locs : List Loc) (ls : Array Slot), fL_isSo_118 (fL_isSo_60 S1 S2 S3 S4 S5 S6 S7 n60) (fL_isSo_79 (fL_isSo_60 S1 S2 S3 S4 S5 S6 S7 n60) S1 S2 S3 S4 S5 S6 S7 n79) S1 S2 S3 S4 S5 S6 S7 S8_118h v9_118 v10_118 v12_118 t0_118 = some (r, u8) → va_P (dC, dI) vwCl (fl [[(b1, .inl (cs 0, 8, .inl S1))], [(b2, .inl (cs 0, 24, .inl S2))], [(b3, .inl (cs 0, 48, .inl S3))], [(b4, .inl (cs 0, 48, .inl S4))], [(b5, .inl (cs 0, 40, .inl S5))], [(b6, .inl (cs 0, 32, .inl S6))], [(b7, .inl (cs 0, 6, .inl S7))], (w_X10 ad (0) cs en S8_118h)]) H → va_D A (fl [[(b1, .inl (cs 0, 8, .inl S1))], [(b2, .inl (cs 0, 24, .inl S2))], [(b3, .inl (cs 0, 48, .inl S3))], [(b4, .inl (cs 0, 48, .inl S4))], [(b5, .inl (cs 0, 40, .inl S5))], [(b6, .inl (cs 0, 32, .inl S6))], [(b7, .inl (cs 0, 6, .inl S7))], (w_X10 ad (0) cs en S8_118h)]) → va_S A s.heap H locs → lv_has ls 13 [(0, .ref (ad 0)), (1, .ref b1), (2, .ref b2), (3, .ref b3), (7, .ref b7), (9, .int v9_118), (10, .int v10_118), (12, .int v12_118)] → W p l e (headSpec wsL_isSo ({ frames := 6, cells := 1, slots := 4, locals := 138 } : Room)).room s m ([.ref (ad 0), .ref b1, .ref b2, .ref b3, .ref b4, .ref b5, .ref b6, .ref b7] : List Value).toArray below meth c H locs 1 4 (MQ below (QI dC dI (tyL cs) A (fl [[(b1, .inl (cs 0, 8, .inl S1))], [(b2, .inl (cs 0, 24, .inl S2))], [(b3, .inl (cs 0, 48, .inl S3))], [(b4, .inl (cs 0, 48, .inl S4))], [(b5, .inl (cs 0, 40, .inl S5))], [(b6, .inl (cs 0, 32, .inl S6))], [(b7, .inl (cs 0, 6, .inl S7))], (w_X10 ad (0) cs en u8)]) r) ([.ref (ad 0), .ref b1, .ref b2, .ref b3, .ref b4, .ref b5, .ref b6, .ref b7] : List Value).toArray s 1 4 A) (F0 m 118 ls [.int t0_118]) := by
            intro S8_118h v9_118 v10_118 v12_118 t0_118 H locs ls hR hP hD hS hl
            refine lv_iconst (v := 0) hx hb dL_isSo_118 ic_0 ?_
            exact hB119 S8_118h v9_118 v10_118 v12_118 t0_118 (0 : Int32) H _ ls hR hP hD hS (lv_sub hl [0, 1, 2, 3, 4, 5, 6, 7] rfl)
          intro S8_79h v9_79 v10_79 v11_79 v12_79 H locs ls hR hP hD hS hl
          rw [fL_isSo_79] at hR
          refine lv_iload hx hb dL_isSo_79 (lv_at hl 8 rfl) ?_
          refine lv_aload_n hx hb dL_isSo_81 rfl (lv_at hl 1 rfl) ?_
          refine lv_iconst (v := 1) hx hb dL_isSo_82 ic_1 ?_
          refine va_iald hx hb hK hP 0 0 rfl rfl vi_1_8 dL_isSo_83 ?_
          refine lv_icmp_ge (tgt := 128) hx hb dL_isSo_84 (by decide) (fun c84 => ?_) (fun c84 => ?_)
          · replace hR := it_t hR c84
            refine lv_iload hx hb dL_isSo_128 (lv_at hl 5 rfl) ?_
            refine lv_aload_n hx hb dL_isSo_130 rfl (lv_at hl 2 rfl) ?_
            refine lv_iconst (v := 4) hx hb dL_isSo_131 ic_4 ?_
            refine lv_iload hx hb dL_isSo_132 (lv_at hl 6 rfl) ?_
            refine lv_imul hx hb dL_isSo_134 ?_
            refine lv_iconst (v := 1) hx hb dL_isSo_135 ic_1 ?_
            refine lv_iadd hx hb dL_isSo_136 ?_
            replace hR := gi_e hR
            obtain ⟨i137, hR⟩ := hR
            refine va_iald hx hb hK hP 1 0 rfl rfl i137 dL_isSo_137 ?_
            refine lv_iadd hx hb dL_isSo_138 ?_
            replace hR := bn_e hR
            obtain ⟨x139, ex139, hR⟩ := hR
            refine tp_g ex139 ?_
            refine lv_istore (lv' := [(9, .int x139), (0, .ref (ad 0)), (1, .ref b1), (2, .ref b2), (3, .ref b3), (7, .ref b7), (10, .int v10_79), (11, .int v11_79), (12, .int v12_79)]) hx hb dL_isSo_139 hl (Nat.le_of_ble_eq_true rfl) rfl (fun ls hl => ?_)
            refine lv_aload_n hx hb dL_isSo_141 rfl (lv_at hl 1 rfl) ?_
            refine lv_iload hx hb dL_isSo_142 (lv_at hl 6 rfl) ?_
            refine lv_iconst (v := 0) hx hb dL_isSo_144 ic_0 ?_
            replace hR := bd_e hR
            obtain ⟨q145, gq145, hR⟩ := hR
            refine cm_Vi (As := [.int v10_79, .int (0 : Int32)]) (rest := []) (L := [[(b1, .inl (cs 0, 8, .inl S1))], [(b2, .inl (cs 0, 24, .inl S2))], [(b3, .inl (cs 0, 48, .inl S3))], [(b4, .inl (cs 0, 48, .inl S4))], [(b5, .inl (cs 0, 40, .inl S5))], [(b6, .inl (cs 0, 32, .inl S6))], [(b7, .inl (cs 0, 6, .inl S7))], (w_X10 ad (0) cs en S8_79h)]) (L' := [[(b1, .inl (cs 0, 8, .inl S1))], [(b2, .inl (cs 0, 24, .inl S2))], [(b3, .inl (cs 0, 48, .inl S3))], [(b4, .inl (cs 0, 48, .inl S4))], [(b5, .inl (cs 0, 40, .inl S5))], [(b6, .inl (cs 0, 32, .inl S6))], [(b7, .inl (cs 0, 6, .inl S7))], (w_X10 ad (0) cs en q145.2)]) (Wc := [(w_X10 ad (0) cs en S8_79h)]) (Wc' := [(w_X10 ad (0) cs en q145.2)]) (is := [7]) (js := [0, 1, 2, 3, 4, 5, 6]) ⟨hx, hb, hml, hown, hts⟩ (k_X10_stationOf l dC dI cs ad en H.size S8_79h v10_79 (0 : Int32) q145.1 q145.2 gq145) (cwV 2 hts gL_isSo_X10_stationOf rfl rfl rfl cd_X10_stationOf ⟨Nat.le_of_ble_eq_true rfl, Nat.le_of_ble_eq_true rfl⟩) hK hP hD hS hA (jx_7 (w_X10_fst ad 0 cs en _ _)) (jn_nd (is := [7]) hD rfl rfl) 7 8 rfl rfl rfl rfl rfl hl.1 (Nat.le_of_ble_eq_true rfl) dL_isSo_145 ⟨Nat.le_of_ble_eq_true rfl, Nat.le_of_ble_eq_true rfl⟩ (fun H145 locs145 hP' hD' hS' => ?_)
            replace hS := hS'
            replace hP : va_P (dC, dI) vwCl (fl [[(b1, .inl (cs 0, 8, .inl S1))], [(b2, .inl (cs 0, 24, .inl S2))], [(b3, .inl (cs 0, 48, .inl S3))], [(b4, .inl (cs 0, 48, .inl S4))], [(b5, .inl (cs 0, 40, .inl S5))], [(b6, .inl (cs 0, 32, .inl S6))], [(b7, .inl (cs 0, 6, .inl S7))], (w_X10 ad (0) cs en q145.2)]) H145 := hP'
            replace hD : va_D A (fl [[(b1, .inl (cs 0, 8, .inl S1))], [(b2, .inl (cs 0, 24, .inl S2))], [(b3, .inl (cs 0, 48, .inl S3))], [(b4, .inl (cs 0, 48, .inl S4))], [(b5, .inl (cs 0, 40, .inl S5))], [(b6, .inl (cs 0, 32, .inl S6))], [(b7, .inl (cs 0, 6, .inl S7))], (w_X10 ad (0) cs en q145.2)]) := hD'
            clear hP' hD' hS'
            refine lv_aload_n hx hb dL_isSo_148 rfl (lv_at hl 3 rfl) ?_
            refine lv_iconst (v := 4) hx hb dL_isSo_149 ic_4 ?_
            refine lv_iload hx hb dL_isSo_150 (lv_at hl 6 rfl) ?_
            refine lv_imul hx hb dL_isSo_152 ?_
            replace hR := gi_e hR
            obtain ⟨i153, hR⟩ := hR
            refine va_iald hx hb hK hP 1 0 rfl rfl i153 dL_isSo_153 ?_
            refine lv_icmp_ne (tgt := 240) hx hb dL_isSo_154 (by decide) (fun c154 => ?_) (fun c154 => ?_)
            · replace hR := it_f hR c154
              exact hB240 q145.2 x139 v10_79 H145 _ ls hR hP hD hS (lv_sub hl [1, 2, 3, 4, 5, 0, 6] rfl)
            · replace hR := it_t hR c154
              refine lv_aload_n hx hb dL_isSo_157 rfl (lv_at hl 1 rfl) ?_
              refine lv_iload hx hb dL_isSo_158 (lv_at hl 6 rfl) ?_
              refine lv_iconst (v := 1) hx hb dL_isSo_160 ic_1 ?_
              replace hR := bd_e hR
              obtain ⟨q161, gq161, hR⟩ := hR
              refine cm_Vi (As := [.int v10_79, .int (1 : Int32)]) (rest := []) (L := [[(b1, .inl (cs 0, 8, .inl S1))], [(b2, .inl (cs 0, 24, .inl S2))], [(b3, .inl (cs 0, 48, .inl S3))], [(b4, .inl (cs 0, 48, .inl S4))], [(b5, .inl (cs 0, 40, .inl S5))], [(b6, .inl (cs 0, 32, .inl S6))], [(b7, .inl (cs 0, 6, .inl S7))], (w_X10 ad (0) cs en q145.2)]) (L' := [[(b1, .inl (cs 0, 8, .inl S1))], [(b2, .inl (cs 0, 24, .inl S2))], [(b3, .inl (cs 0, 48, .inl S3))], [(b4, .inl (cs 0, 48, .inl S4))], [(b5, .inl (cs 0, 40, .inl S5))], [(b6, .inl (cs 0, 32, .inl S6))], [(b7, .inl (cs 0, 6, .inl S7))], (w_X10 ad (0) cs en q161.2)]) (Wc := [(w_X10 ad (0) cs en q145.2)]) (Wc' := [(w_X10 ad (0) cs en q161.2)]) (is := [7]) (js := [0, 1, 2, 3, 4, 5, 6]) ⟨hx, hb, hml, hown, hts⟩ (k_X10_stationOf l dC dI cs ad en H145.size q145.2 v10_79 (1 : Int32) q161.1 q161.2 gq161) (cwV 2 hts gL_isSo_X10_stationOf rfl rfl rfl cd_X10_stationOf ⟨Nat.le_of_ble_eq_true rfl, Nat.le_of_ble_eq_true rfl⟩) hK hP hD hS hA (jx_7 (w_X10_fst ad 0 cs en _ _)) (jn_nd (is := [7]) hD rfl rfl) 7 8 rfl rfl rfl rfl rfl hl.1 (Nat.le_of_ble_eq_true rfl) dL_isSo_161 ⟨Nat.le_of_ble_eq_true rfl, Nat.le_of_ble_eq_true rfl⟩ (fun H161 locs161 hP' hD' hS' => ?_)
              replace hS := hS'
              replace hP : va_P (dC, dI) vwCl (fl [[(b1, .inl (cs 0, 8, .inl S1))], [(b2, .inl (cs 0, 24, .inl S2))], [(b3, .inl (cs 0, 48, .inl S3))], [(b4, .inl (cs 0, 48, .inl S4))], [(b5, .inl (cs 0, 40, .inl S5))], [(b6, .inl (cs 0, 32, .inl S6))], [(b7, .inl (cs 0, 6, .inl S7))], (w_X10 ad (0) cs en q161.2)]) H161 := hP'
              replace hD : va_D A (fl [[(b1, .inl (cs 0, 8, .inl S1))], [(b2, .inl (cs 0, 24, .inl S2))], [(b3, .inl (cs 0, 48, .inl S3))], [(b4, .inl (cs 0, 48, .inl S4))], [(b5, .inl (cs 0, 40, .inl S5))], [(b6, .inl (cs 0, 32, .inl S6))], [(b7, .inl (cs 0, 6, .inl S7))], (w_X10 ad (0) cs en q161.2)]) := hD'
              clear hP' hD' hS'
              refine lv_aload_n hx hb dL_isSo_164 rfl (lv_at hl 3 rfl) ?_
              refine lv_iconst (v := 4) hx hb dL_isSo_165 ic_4 ?_
              refine lv_iload hx hb dL_isSo_166 (lv_at hl 6 rfl) ?_
              refine lv_imul hx hb dL_isSo_168 ?_
              refine lv_iconst (v := 1) hx hb dL_isSo_169 ic_1 ?_
              refine lv_iadd hx hb dL_isSo_170 ?_
              replace hR := gi_e hR
              obtain ⟨i171, hR⟩ := hR
              refine va_iald hx hb hK hP 1 0 rfl rfl i171 dL_isSo_171 ?_
              refine lv_icmp_ne (tgt := 240) hx hb dL_isSo_172 (by decide) (fun c172 => ?_) (fun c172 => ?_)
              · replace hR := it_f hR c172
                exact hB240 q161.2 x139 v10_79 H161 _ ls hR hP hD hS (lv_sub hl [1, 2, 3, 4, 5, 0, 6] rfl)
              · replace hR := it_t hR c172
                refine lv_aload_n hx hb dL_isSo_175 rfl (lv_at hl 1 rfl) ?_
                refine lv_iload hx hb dL_isSo_176 (lv_at hl 6 rfl) ?_
                refine lv_iconst (v := 2) hx hb dL_isSo_178 ic_2 ?_
                replace hR := bd_e hR
                obtain ⟨q179, gq179, hR⟩ := hR
                refine cm_Vi (As := [.int v10_79, .int (2 : Int32)]) (rest := []) (L := [[(b1, .inl (cs 0, 8, .inl S1))], [(b2, .inl (cs 0, 24, .inl S2))], [(b3, .inl (cs 0, 48, .inl S3))], [(b4, .inl (cs 0, 48, .inl S4))], [(b5, .inl (cs 0, 40, .inl S5))], [(b6, .inl (cs 0, 32, .inl S6))], [(b7, .inl (cs 0, 6, .inl S7))], (w_X10 ad (0) cs en q161.2)]) (L' := [[(b1, .inl (cs 0, 8, .inl S1))], [(b2, .inl (cs 0, 24, .inl S2))], [(b3, .inl (cs 0, 48, .inl S3))], [(b4, .inl (cs 0, 48, .inl S4))], [(b5, .inl (cs 0, 40, .inl S5))], [(b6, .inl (cs 0, 32, .inl S6))], [(b7, .inl (cs 0, 6, .inl S7))], (w_X10 ad (0) cs en q179.2)]) (Wc := [(w_X10 ad (0) cs en q161.2)]) (Wc' := [(w_X10 ad (0) cs en q179.2)]) (is := [7]) (js := [0, 1, 2, 3, 4, 5, 6]) ⟨hx, hb, hml, hown, hts⟩ (k_X10_stationOf l dC dI cs ad en H161.size q161.2 v10_79 (2 : Int32) q179.1 q179.2 gq179) (cwV 2 hts gL_isSo_X10_stationOf rfl rfl rfl cd_X10_stationOf ⟨Nat.le_of_ble_eq_true rfl, Nat.le_of_ble_eq_true rfl⟩) hK hP hD hS hA (jx_7 (w_X10_fst ad 0 cs en _ _)) (jn_nd (is := [7]) hD rfl rfl) 7 8 rfl rfl rfl rfl rfl hl.1 (Nat.le_of_ble_eq_true rfl) dL_isSo_179 ⟨Nat.le_of_ble_eq_true rfl, Nat.le_of_ble_eq_true rfl⟩ (fun H179 locs179 hP' hD' hS' => ?_)
                replace hS := hS'
                replace hP : va_P (dC, dI) vwCl (fl [[(b1, .inl (cs 0, 8, .inl S1))], [(b2, .inl (cs 0, 24, .inl S2))], [(b3, .inl (cs 0, 48, .inl S3))], [(b4, .inl (cs 0, 48, .inl S4))], [(b5, .inl (cs 0, 40, .inl S5))], [(b6, .inl (cs 0, 32, .inl S6))], [(b7, .inl (cs 0, 6, .inl S7))], (w_X10 ad (0) cs en q179.2)]) H179 := hP'
                replace hD : va_D A (fl [[(b1, .inl (cs 0, 8, .inl S1))], [(b2, .inl (cs 0, 24, .inl S2))], [(b3, .inl (cs 0, 48, .inl S3))], [(b4, .inl (cs 0, 48, .inl S4))], [(b5, .inl (cs 0, 40, .inl S5))], [(b6, .inl (cs 0, 32, .inl S6))], [(b7, .inl (cs 0, 6, .inl S7))], (w_X10 ad (0) cs en q179.2)]) := hD'
                clear hP' hD' hS'
                refine lv_iload hx hb dL_isSo_182 (lv_at hl 7 rfl) ?_
                refine lv_icmp_ne (tgt := 240) hx hb dL_isSo_184 (by decide) (fun c184 => ?_) (fun c184 => ?_)
                · replace hR := it_f hR c184
                  exact hB240 q179.2 x139 v10_79 H179 _ ls hR hP hD hS (lv_sub hl [1, 2, 3, 4, 5, 0, 6] rfl)
                · replace hR := it_t hR c184
                  refine lv_aload_n hx hb dL_isSo_187 rfl (lv_at hl 1 rfl) ?_
                  refine lv_iload hx hb dL_isSo_188 (lv_at hl 6 rfl) ?_
                  refine lv_iconst (v := 5) hx hb dL_isSo_190 ic_5 ?_
                  replace hR := bd_e hR
                  obtain ⟨q191, gq191, hR⟩ := hR
                  refine cm_Vi (As := [.int v10_79, .int (5 : Int32)]) (rest := []) (L := [[(b1, .inl (cs 0, 8, .inl S1))], [(b2, .inl (cs 0, 24, .inl S2))], [(b3, .inl (cs 0, 48, .inl S3))], [(b4, .inl (cs 0, 48, .inl S4))], [(b5, .inl (cs 0, 40, .inl S5))], [(b6, .inl (cs 0, 32, .inl S6))], [(b7, .inl (cs 0, 6, .inl S7))], (w_X10 ad (0) cs en q179.2)]) (L' := [[(b1, .inl (cs 0, 8, .inl S1))], [(b2, .inl (cs 0, 24, .inl S2))], [(b3, .inl (cs 0, 48, .inl S3))], [(b4, .inl (cs 0, 48, .inl S4))], [(b5, .inl (cs 0, 40, .inl S5))], [(b6, .inl (cs 0, 32, .inl S6))], [(b7, .inl (cs 0, 6, .inl S7))], (w_X10 ad (0) cs en q191.2)]) (Wc := [(w_X10 ad (0) cs en q179.2)]) (Wc' := [(w_X10 ad (0) cs en q191.2)]) (is := [7]) (js := [0, 1, 2, 3, 4, 5, 6]) ⟨hx, hb, hml, hown, hts⟩ (k_X10_stationOf l dC dI cs ad en H179.size q179.2 v10_79 (5 : Int32) q191.1 q191.2 gq191) (cwV 2 hts gL_isSo_X10_stationOf rfl rfl rfl cd_X10_stationOf ⟨Nat.le_of_ble_eq_true rfl, Nat.le_of_ble_eq_true rfl⟩) hK hP hD hS hA (jx_7 (w_X10_fst ad 0 cs en _ _)) (jn_nd (is := [7]) hD rfl rfl) 7 8 rfl rfl rfl rfl rfl hl.1 (Nat.le_of_ble_eq_true rfl) dL_isSo_191 ⟨Nat.le_of_ble_eq_true rfl, Nat.le_of_ble_eq_true rfl⟩ (fun H191 locs191 hP' hD' hS' => ?_)
                  replace hS := hS'
                  replace hP : va_P (dC, dI) vwCl (fl [[(b1, .inl (cs 0, 8, .inl S1))], [(b2, .inl (cs 0, 24, .inl S2))], [(b3, .inl (cs 0, 48, .inl S3))], [(b4, .inl (cs 0, 48, .inl S4))], [(b5, .inl (cs 0, 40, .inl S5))], [(b6, .inl (cs 0, 32, .inl S6))], [(b7, .inl (cs 0, 6, .inl S7))], (w_X10 ad (0) cs en q191.2)]) H191 := hP'
                  replace hD : va_D A (fl [[(b1, .inl (cs 0, 8, .inl S1))], [(b2, .inl (cs 0, 24, .inl S2))], [(b3, .inl (cs 0, 48, .inl S3))], [(b4, .inl (cs 0, 48, .inl S4))], [(b5, .inl (cs 0, 40, .inl S5))], [(b6, .inl (cs 0, 32, .inl S6))], [(b7, .inl (cs 0, 6, .inl S7))], (w_X10 ad (0) cs en q191.2)]) := hD'
                  clear hP' hD' hS'
                  refine lv_aload_n hx hb dL_isSo_194 rfl (lv_at hl 3 rfl) ?_
                  refine lv_iconst (v := 4) hx hb dL_isSo_195 ic_4 ?_
                  refine lv_iload hx hb dL_isSo_196 (lv_at hl 6 rfl) ?_
                  refine lv_imul hx hb dL_isSo_198 ?_
                  refine lv_iconst (v := 2) hx hb dL_isSo_199 ic_2 ?_
                  refine lv_iadd hx hb dL_isSo_200 ?_
                  replace hR := gi_e hR
                  obtain ⟨i201, hR⟩ := hR
                  refine va_iald hx hb hK hP 1 0 rfl rfl i201 dL_isSo_201 ?_
                  refine lv_icmp_ne (tgt := 240) hx hb dL_isSo_202 (by decide) (fun c202 => ?_) (fun c202 => ?_)
                  · replace hR := it_f hR c202
                    exact hB240 q191.2 x139 v10_79 H191 _ ls hR hP hD hS (lv_sub hl [1, 2, 3, 4, 5, 0, 6] rfl)
                  · replace hR := it_t hR c202
                    refine lv_aload_n hx hb dL_isSo_205 rfl (lv_at hl 1 rfl) ?_
                    refine lv_iload hx hb dL_isSo_206 (lv_at hl 6 rfl) ?_
                    refine lv_bipush (v := 6) hx hb dL_isSo_208 bp_6 ?_
                    replace hR := bd_e hR
                    obtain ⟨q210, gq210, hR⟩ := hR
                    refine cm_Vi (As := [.int v10_79, .int (6 : Int32)]) (rest := []) (L := [[(b1, .inl (cs 0, 8, .inl S1))], [(b2, .inl (cs 0, 24, .inl S2))], [(b3, .inl (cs 0, 48, .inl S3))], [(b4, .inl (cs 0, 48, .inl S4))], [(b5, .inl (cs 0, 40, .inl S5))], [(b6, .inl (cs 0, 32, .inl S6))], [(b7, .inl (cs 0, 6, .inl S7))], (w_X10 ad (0) cs en q191.2)]) (L' := [[(b1, .inl (cs 0, 8, .inl S1))], [(b2, .inl (cs 0, 24, .inl S2))], [(b3, .inl (cs 0, 48, .inl S3))], [(b4, .inl (cs 0, 48, .inl S4))], [(b5, .inl (cs 0, 40, .inl S5))], [(b6, .inl (cs 0, 32, .inl S6))], [(b7, .inl (cs 0, 6, .inl S7))], (w_X10 ad (0) cs en q210.2)]) (Wc := [(w_X10 ad (0) cs en q191.2)]) (Wc' := [(w_X10 ad (0) cs en q210.2)]) (is := [7]) (js := [0, 1, 2, 3, 4, 5, 6]) ⟨hx, hb, hml, hown, hts⟩ (k_X10_stationOf l dC dI cs ad en H191.size q191.2 v10_79 (6 : Int32) q210.1 q210.2 gq210) (cwV 2 hts gL_isSo_X10_stationOf rfl rfl rfl cd_X10_stationOf ⟨Nat.le_of_ble_eq_true rfl, Nat.le_of_ble_eq_true rfl⟩) hK hP hD hS hA (jx_7 (w_X10_fst ad 0 cs en _ _)) (jn_nd (is := [7]) hD rfl rfl) 7 8 rfl rfl rfl rfl rfl hl.1 (Nat.le_of_ble_eq_true rfl) dL_isSo_210 ⟨Nat.le_of_ble_eq_true rfl, Nat.le_of_ble_eq_true rfl⟩ (fun H210 locs210 hP' hD' hS' => ?_)
                    replace hS := hS'
                    replace hP : va_P (dC, dI) vwCl (fl [[(b1, .inl (cs 0, 8, .inl S1))], [(b2, .inl (cs 0, 24, .inl S2))], [(b3, .inl (cs 0, 48, .inl S3))], [(b4, .inl (cs 0, 48, .inl S4))], [(b5, .inl (cs 0, 40, .inl S5))], [(b6, .inl (cs 0, 32, .inl S6))], [(b7, .inl (cs 0, 6, .inl S7))], (w_X10 ad (0) cs en q210.2)]) H210 := hP'
                    replace hD : va_D A (fl [[(b1, .inl (cs 0, 8, .inl S1))], [(b2, .inl (cs 0, 24, .inl S2))], [(b3, .inl (cs 0, 48, .inl S3))], [(b4, .inl (cs 0, 48, .inl S4))], [(b5, .inl (cs 0, 40, .inl S5))], [(b6, .inl (cs 0, 32, .inl S6))], [(b7, .inl (cs 0, 6, .inl S7))], (w_X10 ad (0) cs en q210.2)]) := hD'
                    clear hP' hD' hS'
                    refine lv_aload_n hx hb dL_isSo_213 rfl (lv_at hl 3 rfl) ?_
                    refine lv_iconst (v := 4) hx hb dL_isSo_214 ic_4 ?_
                    refine lv_iload hx hb dL_isSo_215 (lv_at hl 6 rfl) ?_
                    refine lv_imul hx hb dL_isSo_217 ?_
                    refine lv_iconst (v := 3) hx hb dL_isSo_218 ic_3 ?_
                    refine lv_iadd hx hb dL_isSo_219 ?_
                    replace hR := gi_e hR
                    obtain ⟨i220, hR⟩ := hR
                    refine va_iald hx hb hK hP 1 0 rfl rfl i220 dL_isSo_220 ?_
                    refine lv_icmp_ne (tgt := 240) hx hb dL_isSo_221 (by decide) (fun c221 => ?_) (fun c221 => ?_)
                    · replace hR := it_f hR c221
                      exact hB240 q210.2 x139 v10_79 H210 _ ls hR hP hD hS (lv_sub hl [1, 2, 3, 4, 5, 0, 6] rfl)
                    · replace hR := it_t hR c221
                      refine lv_aload_n hx hb dL_isSo_224 rfl (lv_at hl 1 rfl) ?_
                      refine lv_iload hx hb dL_isSo_225 (lv_at hl 6 rfl) ?_
                      refine lv_bipush (v := 7) hx hb dL_isSo_227 bp_7 ?_
                      replace hR := bd_e hR
                      obtain ⟨q229, gq229, hR⟩ := hR
                      refine cm_Vi (As := [.int v10_79, .int (7 : Int32)]) (rest := []) (L := [[(b1, .inl (cs 0, 8, .inl S1))], [(b2, .inl (cs 0, 24, .inl S2))], [(b3, .inl (cs 0, 48, .inl S3))], [(b4, .inl (cs 0, 48, .inl S4))], [(b5, .inl (cs 0, 40, .inl S5))], [(b6, .inl (cs 0, 32, .inl S6))], [(b7, .inl (cs 0, 6, .inl S7))], (w_X10 ad (0) cs en q210.2)]) (L' := [[(b1, .inl (cs 0, 8, .inl S1))], [(b2, .inl (cs 0, 24, .inl S2))], [(b3, .inl (cs 0, 48, .inl S3))], [(b4, .inl (cs 0, 48, .inl S4))], [(b5, .inl (cs 0, 40, .inl S5))], [(b6, .inl (cs 0, 32, .inl S6))], [(b7, .inl (cs 0, 6, .inl S7))], (w_X10 ad (0) cs en q229.2)]) (Wc := [(w_X10 ad (0) cs en q210.2)]) (Wc' := [(w_X10 ad (0) cs en q229.2)]) (is := [7]) (js := [0, 1, 2, 3, 4, 5, 6]) ⟨hx, hb, hml, hown, hts⟩ (k_X10_stationOf l dC dI cs ad en H210.size q210.2 v10_79 (7 : Int32) q229.1 q229.2 gq229) (cwV 2 hts gL_isSo_X10_stationOf rfl rfl rfl cd_X10_stationOf ⟨Nat.le_of_ble_eq_true rfl, Nat.le_of_ble_eq_true rfl⟩) hK hP hD hS hA (jx_7 (w_X10_fst ad 0 cs en _ _)) (jn_nd (is := [7]) hD rfl rfl) 7 8 rfl rfl rfl rfl rfl hl.1 (Nat.le_of_ble_eq_true rfl) dL_isSo_229 ⟨Nat.le_of_ble_eq_true rfl, Nat.le_of_ble_eq_true rfl⟩ (fun H229 locs229 hP' hD' hS' => ?_)
                      replace hS := hS'
                      replace hP : va_P (dC, dI) vwCl (fl [[(b1, .inl (cs 0, 8, .inl S1))], [(b2, .inl (cs 0, 24, .inl S2))], [(b3, .inl (cs 0, 48, .inl S3))], [(b4, .inl (cs 0, 48, .inl S4))], [(b5, .inl (cs 0, 40, .inl S5))], [(b6, .inl (cs 0, 32, .inl S6))], [(b7, .inl (cs 0, 6, .inl S7))], (w_X10 ad (0) cs en q229.2)]) H229 := hP'
                      replace hD : va_D A (fl [[(b1, .inl (cs 0, 8, .inl S1))], [(b2, .inl (cs 0, 24, .inl S2))], [(b3, .inl (cs 0, 48, .inl S3))], [(b4, .inl (cs 0, 48, .inl S4))], [(b5, .inl (cs 0, 40, .inl S5))], [(b6, .inl (cs 0, 32, .inl S6))], [(b7, .inl (cs 0, 6, .inl S7))], (w_X10 ad (0) cs en q229.2)]) := hD'
                      clear hP' hD' hS'
                      refine lv_iconst (v := (-1)) hx hb dL_isSo_232 ic_m1 ?_
                      refine lv_icmp_ne (tgt := 240) hx hb dL_isSo_233 (by decide) (fun c233 => ?_) (fun c233 => ?_)
                      · replace hR := it_f hR c233
                        exact hB240 q229.2 x139 v10_79 H229 _ ls hR hP hD hS (lv_sub hl [1, 2, 3, 4, 5, 0, 6] rfl)
                      · replace hR := it_t hR c233
                        refine lv_iconst (v := 1) hx hb dL_isSo_236 ic_1 ?_
                        refine lv_goto (tgt := 241) hx hb dL_isSo_237 (by decide) ?_
                        exact hB241 q229.2 x139 v10_79 (1 : Int32) H229 _ ls hR hP hD hS (lv_sub hl [1, 2, 3, 4, 5, 0, 6] rfl)
          · replace hR := it_f hR c84
            refine lv_iload hx hb dL_isSo_87 (lv_at hl 7 rfl) ?_
            refine lv_aload_n hx hb dL_isSo_89 rfl (lv_at hl 3 rfl) ?_
            refine lv_iconst (v := 3) hx hb dL_isSo_90 ic_3 ?_
            refine lv_iload hx hb dL_isSo_91 (lv_at hl 8 rfl) ?_
            refine lv_imul hx hb dL_isSo_93 ?_
            replace hR := gi_e hR
            obtain ⟨i94, hR⟩ := hR
            refine va_iald hx hb hK hP 2 0 rfl rfl i94 dL_isSo_94 ?_
            refine lv_if_ne (tgt := 118) hx hb dL_isSo_95 (by decide) (fun c95 => ?_) (fun c95 => ?_)
            · replace hR := it_f hR c95
              exact hB118 S8_79h v9_79 v10_79 v12_79 v11_79 H _ ls hR hP hD hS (lv_sub hl [0, 1, 2, 3, 4, 5, 6, 8] rfl)
            · replace hR := it_t hR c95
              refine lv_aload_n hx hb dL_isSo_98 rfl (lv_at hl 3 rfl) ?_
              refine lv_iconst (v := 3) hx hb dL_isSo_99 ic_3 ?_
              refine lv_iload hx hb dL_isSo_100 (lv_at hl 8 rfl) ?_
              refine lv_imul hx hb dL_isSo_102 ?_
              refine lv_iconst (v := 1) hx hb dL_isSo_103 ic_1 ?_
              refine lv_iadd hx hb dL_isSo_104 ?_
              replace hR := gi_e hR
              obtain ⟨i105, hR⟩ := hR
              refine va_iald hx hb hK hP 2 0 rfl rfl i105 dL_isSo_105 ?_
              refine lv_iload hx hb dL_isSo_106 (lv_at hl 6 rfl) ?_
              refine lv_icmp_ne (tgt := 118) hx hb dL_isSo_108 (by decide) (fun c108 => ?_) (fun c108 => ?_)
              · replace hR := it_f hR c108
                exact hB118 S8_79h v9_79 v10_79 v12_79 v11_79 H _ ls hR hP hD hS (lv_sub hl [0, 1, 2, 3, 4, 5, 6, 8] rfl)
              · replace hR := it_t hR c108
                refine lv_iconst (v := 1) hx hb dL_isSo_111 ic_1 ?_
                refine lv_iload hx hb dL_isSo_112 (lv_at hl 8 rfl) ?_
                refine lv_ishl hx hb dL_isSo_114 ?_
                refine lv_goto (tgt := 119) hx hb dL_isSo_115 (by decide) ?_
                exact hB119 S8_79h v9_79 v10_79 v12_79 v11_79 ((1 : Int32) <<< (v12_79 &&& 31)) H _ ls hR hP hD hS (lv_sub hl [0, 1, 2, 3, 4, 5, 6, 8] rfl)
      intro S8_60h v8_60 v9_60 v10_60 H locs ls hR hP hD hS hl
      rw [fL_isSo_60] at hR
      refine lv_iload hx hb dL_isSo_60 (lv_at hl 7 rfl) ?_
      refine lv_aload_n hx hb dL_isSo_62 rfl (lv_at hl 1 rfl) ?_
      refine lv_iconst (v := 0) hx hb dL_isSo_63 ic_0 ?_
      refine va_iald hx hb hK hP 0 0 rfl rfl vi_0_8 dL_isSo_64 ?_
      refine lv_icmp_ge (tgt := 249) hx hb dL_isSo_65 (by decide) (fun c65 => ?_) (fun c65 => ?_)
      · replace hR := it_t hR c65
        exact hB249 S8_60h v8_60 v9_60 H _ ls hR hP hD hS (lv_sub hl [0, 1, 3, 4, 5, 6] rfl)
      · replace hR := it_f hR c65
        refine lv_iload hx hb dL_isSo_68 (lv_at hl 5 rfl) ?_
        refine lv_if_eq (tgt := 249) hx hb dL_isSo_70 (by decide) (fun c70 => ?_) (fun c70 => ?_)
        · replace hR := it_t hR c70
          exact hB249 S8_60h v8_60 v9_60 H _ ls hR hP hD hS (lv_sub hl [0, 1, 3, 4, 5, 6] rfl)
        · replace hR := it_f hR c70
          refine lv_iconst (v := 0) hx hb dL_isSo_73 ic_0 ?_
          refine lv_istore (lv' := [(11, .int (0 : Int32)), (0, .ref (ad 0)), (1, .ref b1), (2, .ref b2), (3, .ref b3), (7, .ref b7), (8, .int v8_60), (9, .int v9_60), (10, .int v10_60)]) hx hb dL_isSo_74 hl (Nat.le_of_ble_eq_true rfl) rfl (fun ls hl => ?_)
          refine lv_iconst (v := 0) hx hb dL_isSo_76 ic_0 ?_
          refine lv_istore (lv' := [(12, .int (0 : Int32)), (11, .int (0 : Int32)), (0, .ref (ad 0)), (1, .ref b1), (2, .ref b2), (3, .ref b3), (7, .ref b7), (8, .int v8_60), (9, .int v9_60), (10, .int v10_60)]) hx hb dL_isSo_77 hl (Nat.le_of_ble_eq_true rfl) rfl (fun ls hl => ?_)
          exact hB79 fuel S8_60h v9_60 v10_60 (0 : Int32) (0 : Int32) H _ ls hR hP hD hS (lv_sub hl [2, 3, 4, 5, 6, 8, 9, 1, 0] rfl)
  have hB52 : ∀ (S8_52h : T5) (t0_52 : Int32) (H : Heap) (locs : List Loc) (ls : Array Slot), fL_isSo_52 S1 S2 S3 S4 S5 S6 S7 S8_52h t0_52 = some (r, u8) → va_P (dC, dI) vwCl (fl [[(b1, .inl (cs 0, 8, .inl S1))], [(b2, .inl (cs 0, 24, .inl S2))], [(b3, .inl (cs 0, 48, .inl S3))], [(b4, .inl (cs 0, 48, .inl S4))], [(b5, .inl (cs 0, 40, .inl S5))], [(b6, .inl (cs 0, 32, .inl S6))], [(b7, .inl (cs 0, 6, .inl S7))], (w_X10 ad (0) cs en S8_52h)]) H → va_D A (fl [[(b1, .inl (cs 0, 8, .inl S1))], [(b2, .inl (cs 0, 24, .inl S2))], [(b3, .inl (cs 0, 48, .inl S3))], [(b4, .inl (cs 0, 48, .inl S4))], [(b5, .inl (cs 0, 40, .inl S5))], [(b6, .inl (cs 0, 32, .inl S6))], [(b7, .inl (cs 0, 6, .inl S7))], (w_X10 ad (0) cs en S8_52h)]) → va_S A s.heap H locs → lv_has ls 13 [(0, .ref (ad 0)), (1, .ref b1), (2, .ref b2), (3, .ref b3), (7, .ref b7)] → W p l e (headSpec wsL_isSo ({ frames := 6, cells := 1, slots := 4, locals := 138 } : Room)).room s m ([.ref (ad 0), .ref b1, .ref b2, .ref b3, .ref b4, .ref b5, .ref b6, .ref b7] : List Value).toArray below meth c H locs 1 4 (MQ below (QI dC dI (tyL cs) A (fl [[(b1, .inl (cs 0, 8, .inl S1))], [(b2, .inl (cs 0, 24, .inl S2))], [(b3, .inl (cs 0, 48, .inl S3))], [(b4, .inl (cs 0, 48, .inl S4))], [(b5, .inl (cs 0, 40, .inl S5))], [(b6, .inl (cs 0, 32, .inl S6))], [(b7, .inl (cs 0, 6, .inl S7))], (w_X10 ad (0) cs en u8)]) r) ([.ref (ad 0), .ref b1, .ref b2, .ref b3, .ref b4, .ref b5, .ref b6, .ref b7] : List Value).toArray s 1 4 A) (F0 m 52 ls [.int t0_52]) := by
    intro S8_52h t0_52 H locs ls hR hP hD hS hl
    refine lv_istore (lv' := [(8, .int t0_52), (0, .ref (ad 0)), (1, .ref b1), (2, .ref b2), (3, .ref b3), (7, .ref b7)]) hx hb dL_isSo_52 hl (Nat.le_of_ble_eq_true rfl) rfl (fun ls hl => ?_)
    refine lv_iconst (v := 0) hx hb dL_isSo_54 ic_0 ?_
    refine lv_istore (lv' := [(9, .int (0 : Int32)), (8, .int t0_52), (0, .ref (ad 0)), (1, .ref b1), (2, .ref b2), (3, .ref b3), (7, .ref b7)]) hx hb dL_isSo_55 hl (Nat.le_of_ble_eq_true rfl) rfl (fun ls hl => ?_)
    refine lv_iconst (v := 0) hx hb dL_isSo_57 ic_0 ?_
    refine lv_istore (lv' := [(10, .int (0 : Int32)), (9, .int (0 : Int32)), (8, .int t0_52), (0, .ref (ad 0)), (1, .ref b1), (2, .ref b2), (3, .ref b3), (7, .ref b7)]) hx hb dL_isSo_58 hl (Nat.le_of_ble_eq_true rfl) rfl (fun ls hl => ?_)
    exact hB60 fuel S8_52h t0_52 (0 : Int32) (0 : Int32) H _ ls hR hP hD hS (lv_sub hl [3, 4, 5, 6, 7, 2, 1, 0] rfl)
  have hB51 : ∀ (S8_51h : T5) (H : Heap) (locs : List Loc) (ls : Array Slot), fL_isSo_51 S1 S2 S3 S4 S5 S6 S7 S8_51h = some (r, u8) → va_P (dC, dI) vwCl (fl [[(b1, .inl (cs 0, 8, .inl S1))], [(b2, .inl (cs 0, 24, .inl S2))], [(b3, .inl (cs 0, 48, .inl S3))], [(b4, .inl (cs 0, 48, .inl S4))], [(b5, .inl (cs 0, 40, .inl S5))], [(b6, .inl (cs 0, 32, .inl S6))], [(b7, .inl (cs 0, 6, .inl S7))], (w_X10 ad (0) cs en S8_51h)]) H → va_D A (fl [[(b1, .inl (cs 0, 8, .inl S1))], [(b2, .inl (cs 0, 24, .inl S2))], [(b3, .inl (cs 0, 48, .inl S3))], [(b4, .inl (cs 0, 48, .inl S4))], [(b5, .inl (cs 0, 40, .inl S5))], [(b6, .inl (cs 0, 32, .inl S6))], [(b7, .inl (cs 0, 6, .inl S7))], (w_X10 ad (0) cs en S8_51h)]) → va_S A s.heap H locs → lv_has ls 13 [(0, .ref (ad 0)), (1, .ref b1), (2, .ref b2), (3, .ref b3), (7, .ref b7)] → W p l e (headSpec wsL_isSo ({ frames := 6, cells := 1, slots := 4, locals := 138 } : Room)).room s m ([.ref (ad 0), .ref b1, .ref b2, .ref b3, .ref b4, .ref b5, .ref b6, .ref b7] : List Value).toArray below meth c H locs 1 4 (MQ below (QI dC dI (tyL cs) A (fl [[(b1, .inl (cs 0, 8, .inl S1))], [(b2, .inl (cs 0, 24, .inl S2))], [(b3, .inl (cs 0, 48, .inl S3))], [(b4, .inl (cs 0, 48, .inl S4))], [(b5, .inl (cs 0, 40, .inl S5))], [(b6, .inl (cs 0, 32, .inl S6))], [(b7, .inl (cs 0, 6, .inl S7))], (w_X10 ad (0) cs en u8)]) r) ([.ref (ad 0), .ref b1, .ref b2, .ref b3, .ref b4, .ref b5, .ref b6, .ref b7] : List Value).toArray s 1 4 A) (F0 m 51 ls []) := by
    intro S8_51h H locs ls hR hP hD hS hl
    refine lv_iconst (v := 0) hx hb dL_isSo_51 ic_0 ?_
    exact hB52 S8_51h (0 : Int32) H _ ls hR hP hD hS (lv_sub hl [0, 1, 2, 3, 4] rfl)
  refine lv_aload_n hx hb dL_isSo_0 rfl (lv_at hl 0 rfl) ?_
  refine lv_aload_n hx hb dL_isSo_1 rfl (lv_at hl 1 rfl) ?_
  refine lv_aload_n hx hb dL_isSo_2 rfl (lv_at hl 3 rfl) ?_
  refine lv_aload hx hb dL_isSo_3 (lv_at hl 4 rfl) ?_
  replace hR := bd_e hR
  obtain ⟨q5, gq5, hR⟩ := hR
  refine cm_Si (As := [.ref (ad 0), .ref b1, .ref b3, .ref b4]) (rest := []) (L := [[(b1, .inl (cs 0, 8, .inl S1))], [(b2, .inl (cs 0, 24, .inl S2))], [(b3, .inl (cs 0, 48, .inl S3))], [(b4, .inl (cs 0, 48, .inl S4))], [(b5, .inl (cs 0, 40, .inl S5))], [(b6, .inl (cs 0, 32, .inl S6))], [(b7, .inl (cs 0, 6, .inl S7))], (w_X10 ad (0) cs en S8)]) (L' := [[(b1, .inl (cs 0, 8, .inl S1))], [(b2, .inl (cs 0, 24, .inl S2))], [(b3, .inl (cs 0, 48, .inl S3))], [(b4, .inl (cs 0, 48, .inl S4))], [(b5, .inl (cs 0, 40, .inl S5))], [(b6, .inl (cs 0, 32, .inl S6))], [(b7, .inl (cs 0, 6, .inl S7))], (w_X10 ad (0) cs en S8)]) (Wc := [[(b1, .inl (cs 0, 8, .inl S1))], [(b3, .inl (cs 0, 48, .inl S3))], [(b4, .inl (cs 0, 48, .inl S4))], (w_X10 ad (0) cs en S8)]) (Wc' := [[(b1, .inl (cs 0, 8, .inl S1))], [(b3, .inl (cs 0, 48, .inl S3))], [(b4, .inl (cs 0, 48, .inl S4))], (w_X10 ad (0) cs en S8)]) (is := [0, 2, 3, 7]) (js := [1, 4, 5, 6]) ⟨hx, hb, hml, hown, hts⟩ (k_L_areBicycles l dC dI cs ad en (b1) (b3) (b4) s.heap.size S1 S3 S4 S8 q5 gq5) (va_cwS 4 hts gL_isSo_L_areBicycles rfl rfl rfl cd_L_areBicycles.2 ⟨Nat.le_of_ble_eq_true rfl, Nat.le_of_ble_eq_true rfl⟩) hK hP hD hS hA ⟨rfl, rfl, rfl, rfl, rfl, rfl⟩ (jn_nd (is := [0, 2, 3, 7]) hD rfl rfl) rfl rfl hl.1 (Nat.le_of_ble_eq_true rfl) dL_isSo_5 ⟨Nat.le_of_ble_eq_true rfl, Nat.le_of_ble_eq_true rfl⟩ (fun H5 locs5 hP' hD' hS' => ?_)
  replace hS := hS'
  replace hP : va_P (dC, dI) vwCl (fl [[(b1, .inl (cs 0, 8, .inl S1))], [(b2, .inl (cs 0, 24, .inl S2))], [(b3, .inl (cs 0, 48, .inl S3))], [(b4, .inl (cs 0, 48, .inl S4))], [(b5, .inl (cs 0, 40, .inl S5))], [(b6, .inl (cs 0, 32, .inl S6))], [(b7, .inl (cs 0, 6, .inl S7))], (w_X10 ad (0) cs en S8)]) H5 := hP'
  replace hD : va_D A (fl [[(b1, .inl (cs 0, 8, .inl S1))], [(b2, .inl (cs 0, 24, .inl S2))], [(b3, .inl (cs 0, 48, .inl S3))], [(b4, .inl (cs 0, 48, .inl S4))], [(b5, .inl (cs 0, 40, .inl S5))], [(b6, .inl (cs 0, 32, .inl S6))], [(b7, .inl (cs 0, 6, .inl S7))], (w_X10 ad (0) cs en S8)]) := hD'
  clear hP' hD' hS'
  refine lv_if_eq (tgt := 51) hx hb dL_isSo_8 (by decide) (fun c8 => ?_) (fun c8 => ?_)
  · replace hR := it_t hR c8
    exact hB51 S8 H5 _ ls hR hP hD hS (lv_sub hl [0, 1, 2, 3, 7] rfl)
  · replace hR := it_f hR c8
    refine lv_aload_n hx hb dL_isSo_11 rfl (lv_at hl 0 rfl) ?_
    refine lv_aload_n hx hb dL_isSo_12 rfl (lv_at hl 1 rfl) ?_
    refine lv_aload hx hb dL_isSo_13 (lv_at hl 5 rfl) ?_
    refine lv_aload hx hb dL_isSo_15 (lv_at hl 6 rfl) ?_
    replace hR := bd_e hR
    obtain ⟨q17, gq17, hR⟩ := hR
    refine cm_Si (As := [.ref (ad 0), .ref b1, .ref b5, .ref b6]) (rest := []) (L := [[(b1, .inl (cs 0, 8, .inl S1))], [(b2, .inl (cs 0, 24, .inl S2))], [(b3, .inl (cs 0, 48, .inl S3))], [(b4, .inl (cs 0, 48, .inl S4))], [(b5, .inl (cs 0, 40, .inl S5))], [(b6, .inl (cs 0, 32, .inl S6))], [(b7, .inl (cs 0, 6, .inl S7))], (w_X10 ad (0) cs en S8)]) (L' := [[(b1, .inl (cs 0, 8, .inl S1))], [(b2, .inl (cs 0, 24, .inl S2))], [(b3, .inl (cs 0, 48, .inl S3))], [(b4, .inl (cs 0, 48, .inl S4))], [(b5, .inl (cs 0, 40, .inl S5))], [(b6, .inl (cs 0, 32, .inl S6))], [(b7, .inl (cs 0, 6, .inl S7))], (w_X10 ad (0) cs en q17.2)]) (Wc := [[(b1, .inl (cs 0, 8, .inl S1))], [(b5, .inl (cs 0, 40, .inl S5))], [(b6, .inl (cs 0, 32, .inl S6))], (w_X10 ad (0) cs en S8)]) (Wc' := [[(b1, .inl (cs 0, 8, .inl S1))], [(b5, .inl (cs 0, 40, .inl S5))], [(b6, .inl (cs 0, 32, .inl S6))], (w_X10 ad (0) cs en q17.2)]) (is := [0, 4, 5, 7]) (js := [1, 2, 3, 6]) ⟨hx, hb, hml, hown, hts⟩ (k_L_areRiders l dC dI cs ad en (b1) (b5) (b6) H5.size S1 S5 S6 S8 q17.1 q17.2 gq17) (va_cwS 4 hts gL_isSo_L_areRiders rfl rfl rfl cd_L_areRiders.2 ⟨Nat.le_of_ble_eq_true rfl, Nat.le_of_ble_eq_true rfl⟩) hK hP hD hS hA ⟨rfl, rfl, rfl, rfl, rfl, rfl⟩ (jn_nd (is := [0, 4, 5, 7]) hD rfl rfl) rfl rfl hl.1 (Nat.le_of_ble_eq_true rfl) dL_isSo_17 ⟨Nat.le_of_ble_eq_true rfl, Nat.le_of_ble_eq_true rfl⟩ (fun H17 locs17 hP' hD' hS' => ?_)
    replace hS := hS'
    replace hP : va_P (dC, dI) vwCl (fl [[(b1, .inl (cs 0, 8, .inl S1))], [(b2, .inl (cs 0, 24, .inl S2))], [(b3, .inl (cs 0, 48, .inl S3))], [(b4, .inl (cs 0, 48, .inl S4))], [(b5, .inl (cs 0, 40, .inl S5))], [(b6, .inl (cs 0, 32, .inl S6))], [(b7, .inl (cs 0, 6, .inl S7))], (w_X10 ad (0) cs en q17.2)]) H17 := hP'
    replace hD : va_D A (fl [[(b1, .inl (cs 0, 8, .inl S1))], [(b2, .inl (cs 0, 24, .inl S2))], [(b3, .inl (cs 0, 48, .inl S3))], [(b4, .inl (cs 0, 48, .inl S4))], [(b5, .inl (cs 0, 40, .inl S5))], [(b6, .inl (cs 0, 32, .inl S6))], [(b7, .inl (cs 0, 6, .inl S7))], (w_X10 ad (0) cs en q17.2)]) := hD'
    clear hP' hD' hS'
    refine lv_if_eq (tgt := 51) hx hb dL_isSo_20 (by decide) (fun c20 => ?_) (fun c20 => ?_)
    · replace hR := it_t hR c20
      exact hB51 q17.2 H17 _ ls hR hP hD hS (lv_sub hl [0, 1, 2, 3, 7] rfl)
    · replace hR := it_f hR c20
      refine lv_aload_n hx hb dL_isSo_23 rfl (lv_at hl 0 rfl) ?_
      refine lv_aload_n hx hb dL_isSo_24 rfl (lv_at hl 1 rfl) ?_
      refine lv_iconst (v := 0) hx hb dL_isSo_25 ic_0 ?_
      refine va_iald hx hb hK hP 0 0 rfl rfl vi_0_8 dL_isSo_26 ?_
      refine lv_iconst (v := 0) hx hb dL_isSo_27 ic_0 ?_
      replace hR := bd_e hR
      obtain ⟨q28, gq28, hR⟩ := hR
      refine cm_Vi (As := [.int (S1  (0 : Int32).toNatClampNeg), .int (0 : Int32)]) (rest := []) (L := [[(b1, .inl (cs 0, 8, .inl S1))], [(b2, .inl (cs 0, 24, .inl S2))], [(b3, .inl (cs 0, 48, .inl S3))], [(b4, .inl (cs 0, 48, .inl S4))], [(b5, .inl (cs 0, 40, .inl S5))], [(b6, .inl (cs 0, 32, .inl S6))], [(b7, .inl (cs 0, 6, .inl S7))], (w_X10 ad (0) cs en q17.2)]) (L' := [[(b1, .inl (cs 0, 8, .inl S1))], [(b2, .inl (cs 0, 24, .inl S2))], [(b3, .inl (cs 0, 48, .inl S3))], [(b4, .inl (cs 0, 48, .inl S4))], [(b5, .inl (cs 0, 40, .inl S5))], [(b6, .inl (cs 0, 32, .inl S6))], [(b7, .inl (cs 0, 6, .inl S7))], (w_X10 ad (0) cs en q28.2)]) (Wc := [(w_X10 ad (0) cs en q17.2)]) (Wc' := [(w_X10 ad (0) cs en q28.2)]) (is := [7]) (js := [0, 1, 2, 3, 4, 5, 6]) ⟨hx, hb, hml, hown, hts⟩ (k_X10_stationOf l dC dI cs ad en H17.size q17.2 (S1  (0 : Int32).toNatClampNeg) (0 : Int32) q28.1 q28.2 gq28) (cwV 2 hts gL_isSo_X10_stationOf rfl rfl rfl cd_X10_stationOf ⟨Nat.le_of_ble_eq_true rfl, Nat.le_of_ble_eq_true rfl⟩) hK hP hD hS hA (jx_7 (w_X10_fst ad 0 cs en _ _)) (jn_nd (is := [7]) hD rfl rfl) 7 8 rfl rfl rfl rfl rfl hl.1 (Nat.le_of_ble_eq_true rfl) dL_isSo_28 ⟨Nat.le_of_ble_eq_true rfl, Nat.le_of_ble_eq_true rfl⟩ (fun H28 locs28 hP' hD' hS' => ?_)
      replace hS := hS'
      replace hP : va_P (dC, dI) vwCl (fl [[(b1, .inl (cs 0, 8, .inl S1))], [(b2, .inl (cs 0, 24, .inl S2))], [(b3, .inl (cs 0, 48, .inl S3))], [(b4, .inl (cs 0, 48, .inl S4))], [(b5, .inl (cs 0, 40, .inl S5))], [(b6, .inl (cs 0, 32, .inl S6))], [(b7, .inl (cs 0, 6, .inl S7))], (w_X10 ad (0) cs en q28.2)]) H28 := hP'
      replace hD : va_D A (fl [[(b1, .inl (cs 0, 8, .inl S1))], [(b2, .inl (cs 0, 24, .inl S2))], [(b3, .inl (cs 0, 48, .inl S3))], [(b4, .inl (cs 0, 48, .inl S4))], [(b5, .inl (cs 0, 40, .inl S5))], [(b6, .inl (cs 0, 32, .inl S6))], [(b7, .inl (cs 0, 6, .inl S7))], (w_X10 ad (0) cs en q28.2)]) := hD'
      clear hP' hD' hS'
      refine lv_iconst (v := (-1)) hx hb dL_isSo_31 ic_m1 ?_
      refine lv_icmp_ne (tgt := 51) hx hb dL_isSo_32 (by decide) (fun c32 => ?_) (fun c32 => ?_)
      · replace hR := it_f hR c32
        exact hB51 q28.2 H28 _ ls hR hP hD hS (lv_sub hl [0, 1, 2, 3, 7] rfl)
      · replace hR := it_t hR c32
        refine lv_aload_n hx hb dL_isSo_35 rfl (lv_at hl 0 rfl) ?_
        refine lv_aload_n hx hb dL_isSo_36 rfl (lv_at hl 1 rfl) ?_
        refine lv_iconst (v := 3) hx hb dL_isSo_37 ic_3 ?_
        refine va_iald hx hb hK hP 0 0 rfl rfl vi_3_8 dL_isSo_38 ?_
        refine lv_iconst (v := 0) hx hb dL_isSo_39 ic_0 ?_
        replace hR := bd_e hR
        obtain ⟨q40, gq40, hR⟩ := hR
        refine cm_Vi (As := [.int (S1  (3 : Int32).toNatClampNeg), .int (0 : Int32)]) (rest := []) (L := [[(b1, .inl (cs 0, 8, .inl S1))], [(b2, .inl (cs 0, 24, .inl S2))], [(b3, .inl (cs 0, 48, .inl S3))], [(b4, .inl (cs 0, 48, .inl S4))], [(b5, .inl (cs 0, 40, .inl S5))], [(b6, .inl (cs 0, 32, .inl S6))], [(b7, .inl (cs 0, 6, .inl S7))], (w_X10 ad (0) cs en q28.2)]) (L' := [[(b1, .inl (cs 0, 8, .inl S1))], [(b2, .inl (cs 0, 24, .inl S2))], [(b3, .inl (cs 0, 48, .inl S3))], [(b4, .inl (cs 0, 48, .inl S4))], [(b5, .inl (cs 0, 40, .inl S5))], [(b6, .inl (cs 0, 32, .inl S6))], [(b7, .inl (cs 0, 6, .inl S7))], (w_X10 ad (0) cs en q28.2)]) (Wc := [(w_X10 ad (0) cs en q28.2)]) (Wc' := [(w_X10 ad (0) cs en q28.2)]) (is := [7]) (js := [0, 1, 2, 3, 4, 5, 6]) ⟨hx, hb, hml, hown, hts⟩ (k_X10_vanOf l dC dI cs ad en H28.size q28.2 (S1  (3 : Int32).toNatClampNeg) (0 : Int32) q40 gq40) (cwV 2 hts gL_isSo_X10_vanOf rfl rfl rfl cd_X10_vanOf ⟨Nat.le_of_ble_eq_true rfl, Nat.le_of_ble_eq_true rfl⟩) hK hP hD hS hA ⟨rfl, rfl, rfl, rfl, rfl, rfl⟩ (jn_nd (is := [7]) hD rfl rfl) 7 8 rfl rfl rfl rfl rfl hl.1 (Nat.le_of_ble_eq_true rfl) dL_isSo_40 ⟨Nat.le_of_ble_eq_true rfl, Nat.le_of_ble_eq_true rfl⟩ (fun H40 locs40 hP' hD' hS' => ?_)
        replace hS := hS'
        replace hP : va_P (dC, dI) vwCl (fl [[(b1, .inl (cs 0, 8, .inl S1))], [(b2, .inl (cs 0, 24, .inl S2))], [(b3, .inl (cs 0, 48, .inl S3))], [(b4, .inl (cs 0, 48, .inl S4))], [(b5, .inl (cs 0, 40, .inl S5))], [(b6, .inl (cs 0, 32, .inl S6))], [(b7, .inl (cs 0, 6, .inl S7))], (w_X10 ad (0) cs en q28.2)]) H40 := hP'
        replace hD : va_D A (fl [[(b1, .inl (cs 0, 8, .inl S1))], [(b2, .inl (cs 0, 24, .inl S2))], [(b3, .inl (cs 0, 48, .inl S3))], [(b4, .inl (cs 0, 48, .inl S4))], [(b5, .inl (cs 0, 40, .inl S5))], [(b6, .inl (cs 0, 32, .inl S6))], [(b7, .inl (cs 0, 6, .inl S7))], (w_X10 ad (0) cs en q28.2)]) := hD'
        clear hP' hD' hS'
        refine lv_iconst (v := (-1)) hx hb dL_isSo_43 ic_m1 ?_
        refine lv_icmp_ne (tgt := 51) hx hb dL_isSo_44 (by decide) (fun c44 => ?_) (fun c44 => ?_)
        · replace hR := it_f hR c44
          exact hB51 q28.2 H40 _ ls hR hP hD hS (lv_sub hl [0, 1, 2, 3, 7] rfl)
        · replace hR := it_t hR c44
          refine lv_iconst (v := 1) hx hb dL_isSo_47 ic_1 ?_
          refine lv_goto (tgt := 52) hx hb dL_isSo_48 (by decide) ?_
          exact hB52 q28.2 (1 : Int32) H40 _ ls hR hP hD hS (lv_sub hl [0, 1, 2, 3, 7] rfl)
