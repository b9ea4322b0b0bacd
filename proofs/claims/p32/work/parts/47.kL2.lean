set_option maxHeartbeats 8000000 in
set_option maxRecDepth 100000 in
theorem k_L_drives (l : Launch) (dC : Nat → ClassId) (dI : Nat → Nat → Nat) (cs : Nat → ClassId) (ad : Nat → Nat) (en : Nat → Nat) (b1 b2 b3 b4 b5 : Nat) (sz : Nat) (S1 : T1) (S2 : T1) (S3 : T1) (S4 : T1) (S5 : T1) (S6 : T5) (p6 : Int32) (p7 : Int32) (r : Int32) (u3 : T1) (u4 : T1) (u5 : T1) (u6 : T5) (hR : fL_drives S1 S2 S3 S4 S5 S6 p6 p7 = some (r, u3, u4, u5, u6)) : Met l yL_drives wsL_drives ({ frames := 6, cells := 0, slots := 0, locals := 137 } : Room) (va_Pc [.ref (ad 0), .ref b1, .ref b2, .ref b3, .ref b4, .ref b5, .int p6, .int p7] (pW dC dI (tyL cs) (fl [[(b1, .inl (cs 0, 8, .inl S1))], [(b2, .inl (cs 0, 24, .inl S2))], [(b3, .inl (cs 0, 48, .inl S3))], [(b4, .inl (cs 0, 48, .inl S4))], [(b5, .inl (cs 0, 6, .inl S5))], (w_X10 ad (0) cs en S6)]) sz)) (QI dC dI (tyL cs) (va_A (fl [[(b1, .inl (cs 0, 8, .inl S1))], [(b2, .inl (cs 0, 24, .inl S2))], [(b3, .inl (cs 0, 48, .inl S3))], [(b4, .inl (cs 0, 48, .inl S4))], [(b5, .inl (cs 0, 6, .inl S5))], (w_X10 ad (0) cs en S6)]) sz) (fl [[(b1, .inl (cs 0, 8, .inl S1))], [(b2, .inl (cs 0, 24, .inl S2))], [(b3, .inl (cs 0, 48, .inl u3))], [(b4, .inl (cs 0, 48, .inl u4))], [(b5, .inl (cs 0, 6, .inl u5))], (w_X10 ad (0) cs en u6)]) r) 0 0 (va_A (fl [[(b1, .inl (cs 0, 8, .inl S1))], [(b2, .inl (cs 0, 24, .inl S2))], [(b3, .inl (cs 0, 48, .inl S3))], [(b4, .inl (cs 0, 48, .inl S4))], [(b5, .inl (cs 0, 6, .inl S5))], (w_X10 ad (0) cs en S6)]) sz) := by
  refine mt_ofC (own := RL) (cc := cL_drives) (maxL := 13) (ret := (some .boolean)) (Qc := fun A => QI dC dI (tyL cs) A (fl [[(b1, .inl (cs 0, 8, .inl S1))], [(b2, .inl (cs 0, 24, .inl S2))], [(b3, .inl (cs 0, 48, .inl u3))], [(b4, .inl (cs 0, 48, .inl u4))], [(b5, .inl (cs 0, 6, .inl u5))], (w_X10 ad (0) cs en u6)]) r) rfl (by decide) rfl (Nat.le_of_ble_eq_true rfl) (fun p e s m below meth c A ls hsz hx hb hr hts hown hlocks hml hA hK hP hD hS hl => ?_)
  subst hsz
  have hl : lv_has ls 13 [(0, .ref (ad 0)), (1, .ref b1), (2, .ref b2), (3, .ref b3), (4, .ref b4), (5, .ref b5), (6, .int p6), (7, .int p7)] := hl
  have hB488 : ∀ (S3_488h : T1) (S4_488h : T1) (S5_488h : T1) (S6_488h : T5) (v8_488 : Int32) (v12_488 : Int32) (H : Heap) (locs : List Loc) (ls : Array Slot), fL_drives_488 S1 S2 p6 p7 S3_488h S4_488h S5_488h S6_488h v8_488 v12_488 = some (r, u3, u4, u5, u6) → va_P (dC, dI) vwCl (fl [[(b1, .inl (cs 0, 8, .inl S1))], [(b2, .inl (cs 0, 24, .inl S2))], [(b3, .inl (cs 0, 48, .inl S3_488h))], [(b4, .inl (cs 0, 48, .inl S4_488h))], [(b5, .inl (cs 0, 6, .inl S5_488h))], (w_X10 ad (0) cs en S6_488h)]) H → va_D A (fl [[(b1, .inl (cs 0, 8, .inl S1))], [(b2, .inl (cs 0, 24, .inl S2))], [(b3, .inl (cs 0, 48, .inl S3_488h))], [(b4, .inl (cs 0, 48, .inl S4_488h))], [(b5, .inl (cs 0, 6, .inl S5_488h))], (w_X10 ad (0) cs en S6_488h)]) → va_S A s.heap H locs → lv_has ls 13 [(0, .ref (ad 0)), (8, .int v8_488), (12, .int v12_488)] → W p l e (headSpec wsL_drives ({ frames := 6, cells := 0, slots := 0, locals := 137 } : Room)).room s m ([.ref (ad 0), .ref b1, .ref b2, .ref b3, .ref b4, .ref b5, .int p6, .int p7] : List Value).toArray below meth c H locs 0 0 (MQ below (QI dC dI (tyL cs) A (fl [[(b1, .inl (cs 0, 8, .inl S1))], [(b2, .inl (cs 0, 24, .inl S2))], [(b3, .inl (cs 0, 48, .inl u3))], [(b4, .inl (cs 0, 48, .inl u4))], [(b5, .inl (cs 0, 6, .inl u5))], (w_X10 ad (0) cs en u6)]) r) ([.ref (ad 0), .ref b1, .ref b2, .ref b3, .ref b4, .ref b5, .int p6, .int p7] : List Value).toArray s 0 0 A) (F0 m 488 ls []) := by
    intro S3_488h S4_488h S5_488h S6_488h v8_488 v12_488 H locs ls hR hP hD hS hl
    refine lv_aload_n hx hb dL_drives_488 rfl (lv_at hl 0 rfl) ?_
    refine lv_iload hx hb dL_drives_489 (lv_at hl 1 rfl) ?_
    refine lv_iload hx hb dL_drives_491 (lv_at hl 2 rfl) ?_
    replace hR := bd_e hR
    obtain ⟨q493, gq493, hR⟩ := hR
    refine cm_Vi (As := [.int v8_488, .int v12_488]) (rest := []) (L := [[(b1, .inl (cs 0, 8, .inl S1))], [(b2, .inl (cs 0, 24, .inl S2))], [(b3, .inl (cs 0, 48, .inl S3_488h))], [(b4, .inl (cs 0, 48, .inl S4_488h))], [(b5, .inl (cs 0, 6, .inl S5_488h))], (w_X10 ad (0) cs en S6_488h)]) (L' := [[(b1, .inl (cs 0, 8, .inl S1))], [(b2, .inl (cs 0, 24, .inl S2))], [(b3, .inl (cs 0, 48, .inl S3_488h))], [(b4, .inl (cs 0, 48, .inl S4_488h))], [(b5, .inl (cs 0, 6, .inl S5_488h))], (w_X10 ad (0) cs en q493.2)]) (Wc := [(w_X10 ad (0) cs en S6_488h)]) (Wc' := [(w_X10 ad (0) cs en q493.2)]) (is := [5]) (js := [0, 1, 2, 3, 4]) ⟨hx, hb, hml, hown, hts⟩ (k_X10_go l dC dI cs ad en H.size S6_488h v8_488 v12_488 q493.1 q493.2 gq493) (cwV 2 hts gL_drives_X10_go rfl rfl rfl cd_X10_go ⟨Nat.le_of_ble_eq_true rfl, Nat.le_of_ble_eq_true rfl⟩) hK hP hD hS hA (jx_5 (w_X10_fst ad 0 cs en _ _)) (jn_nd (is := [5]) hD rfl rfl) 5 8 rfl rfl rfl rfl rfl hl.1 (Nat.le_of_ble_eq_true rfl) dL_drives_493 ⟨Nat.le_of_ble_eq_true rfl, Nat.le_of_ble_eq_true rfl⟩ (fun H493 locs493 hP' hD' hS' => ?_)
    replace hS := hS'
    replace hP : va_P (dC, dI) vwCl (fl [[(b1, .inl (cs 0, 8, .inl S1))], [(b2, .inl (cs 0, 24, .inl S2))], [(b3, .inl (cs 0, 48, .inl S3_488h))], [(b4, .inl (cs 0, 48, .inl S4_488h))], [(b5, .inl (cs 0, 6, .inl S5_488h))], (w_X10 ad (0) cs en q493.2)]) H493 := hP'
    replace hD : va_D A (fl [[(b1, .inl (cs 0, 8, .inl S1))], [(b2, .inl (cs 0, 24, .inl S2))], [(b3, .inl (cs 0, 48, .inl S3_488h))], [(b4, .inl (cs 0, 48, .inl S4_488h))], [(b5, .inl (cs 0, 6, .inl S5_488h))], (w_X10 ad (0) cs en q493.2)]) := hD'
    clear hP' hD' hS'
    refine lv_bipush (v := (-2)) hx hb dL_drives_496 bp_m2 ?_
    refine lv_icmp_ne (tgt := 505) hx hb dL_drives_498 (by decide) (fun c498 => ?_) (fun c498 => ?_)
    · replace hR := it_f hR c498
      refine lv_iconst (v := 0) hx hb dL_drives_505 ic_0 ?_
      replace hR := Option.some.inj hR
      obtain ⟨e9, hR⟩ := Prod.mk.inj hR
      obtain ⟨eu3, hR⟩ := Prod.mk.inj hR
      obtain ⟨eu4, hR⟩ := Prod.mk.inj hR
      obtain ⟨eu5, hR⟩ := Prod.mk.inj hR
      have eu6 := hR
      replace hP : va_P (dC, dI) vwCl (fl [[(b1, .inl (cs 0, 8, .inl S1))], [(b2, .inl (cs 0, 24, .inl S2))], [(b3, .inl (cs 0, 48, .inl u3))], [(b4, .inl (cs 0, 48, .inl u4))], [(b5, .inl (cs 0, 6, .inl u5))], (w_X10 ad (0) cs en u6)]) H493 := by rw [← eu3, ← eu4, ← eu5, ← eu6]; exact hP
      replace hD : va_D A (fl [[(b1, .inl (cs 0, 8, .inl S1))], [(b2, .inl (cs 0, 24, .inl S2))], [(b3, .inl (cs 0, 48, .inl u3))], [(b4, .inl (cs 0, 48, .inl u4))], [(b5, .inl (cs 0, 6, .inl u5))], (w_X10 ad (0) cs en u6)]) := by rw [← eu3, ← eu4, ← eu5, ← eu6]; exact hD
      exact W.zret (ty := .boolean) hx hb hr (by decide) (fun t ht hW => ⟨⟨_, (), rfl, e9, by rw [ht]; exact hP, va_K.moved hW.alike hK, hD⟩, hS.F ht⟩) hS.2.2 dL_drives_506
    · replace hR := it_t hR c498
      refine lv_iconst (v := 1) hx hb dL_drives_501 ic_1 ?_
      refine lv_goto (tgt := 506) hx hb dL_drives_502 (by decide) ?_
      replace hR := Option.some.inj hR
      obtain ⟨e9, hR⟩ := Prod.mk.inj hR
      obtain ⟨eu3, hR⟩ := Prod.mk.inj hR
      obtain ⟨eu4, hR⟩ := Prod.mk.inj hR
      obtain ⟨eu5, hR⟩ := Prod.mk.inj hR
      have eu6 := hR
      replace hP : va_P (dC, dI) vwCl (fl [[(b1, .inl (cs 0, 8, .inl S1))], [(b2, .inl (cs 0, 24, .inl S2))], [(b3, .inl (cs 0, 48, .inl u3))], [(b4, .inl (cs 0, 48, .inl u4))], [(b5, .inl (cs 0, 6, .inl u5))], (w_X10 ad (0) cs en u6)]) H493 := by rw [← eu3, ← eu4, ← eu5, ← eu6]; exact hP
      replace hD : va_D A (fl [[(b1, .inl (cs 0, 8, .inl S1))], [(b2, .inl (cs 0, 24, .inl S2))], [(b3, .inl (cs 0, 48, .inl u3))], [(b4, .inl (cs 0, 48, .inl u4))], [(b5, .inl (cs 0, 6, .inl u5))], (w_X10 ad (0) cs en u6)]) := by rw [← eu3, ← eu4, ← eu5, ← eu6]; exact hD
      exact W.zret (ty := .boolean) hx hb hr (by decide) (fun t ht hW => ⟨⟨_, (), rfl, e9, by rw [ht]; exact hP, va_K.moved hW.alike hK, hD⟩, hS.F ht⟩) hS.2.2 dL_drives_506
  have hB469 : ∀ (S3_469h : T1) (S4_469h : T1) (S5_469h : T1) (S6_469h : T5) (v8_469 : Int32) (v10_469 : Int32) (t0_469 : Int32) (H : Heap) (locs : List Loc) (ls : Array Slot), fL_drives_469 S1 S2 p6 p7 S3_469h S4_469h S5_469h S6_469h v8_469 v10_469 t0_469 = some (r, u3, u4, u5, u6) → va_P (dC, dI) vwCl (fl [[(b1, .inl (cs 0, 8, .inl S1))], [(b2, .inl (cs 0, 24, .inl S2))], [(b3, .inl (cs 0, 48, .inl S3_469h))], [(b4, .inl (cs 0, 48, .inl S4_469h))], [(b5, .inl (cs 0, 6, .inl S5_469h))], (w_X10 ad (0) cs en S6_469h)]) H → va_D A (fl [[(b1, .inl (cs 0, 8, .inl S1))], [(b2, .inl (cs 0, 24, .inl S2))], [(b3, .inl (cs 0, 48, .inl S3_469h))], [(b4, .inl (cs 0, 48, .inl S4_469h))], [(b5, .inl (cs 0, 6, .inl S5_469h))], (w_X10 ad (0) cs en S6_469h)]) → va_S A s.heap H locs → lv_has ls 13 [(0, .ref (ad 0)), (1, .ref b1), (2, .ref b2), (5, .ref b5), (8, .int v8_469), (10, .int v10_469)] → W p l e (headSpec wsL_drives ({ frames := 6, cells := 0, slots := 0, locals := 137 } : Room)).room s m ([.ref (ad 0), .ref b1, .ref b2, .ref b3, .ref b4, .ref b5, .int p6, .int p7] : List Value).toArray below meth c H locs 0 0 (MQ below (QI dC dI (tyL cs) A (fl [[(b1, .inl (cs 0, 8, .inl S1))], [(b2, .inl (cs 0, 24, .inl S2))], [(b3, .inl (cs 0, 48, .inl u3))], [(b4, .inl (cs 0, 48, .inl u4))], [(b5, .inl (cs 0, 6, .inl u5))], (w_X10 ad (0) cs en u6)]) r) ([.ref (ad 0), .ref b1, .ref b2, .ref b3, .ref b4, .ref b5, .int p6, .int p7] : List Value).toArray s 0 0 A) (F0 m 469 ls [.int t0_469]) := by
    intro S3_469h S4_469h S5_469h S6_469h v8_469 v10_469 t0_469 H locs ls hR hP hD hS hl
    refine lv_istore (lv' := [(12, .int t0_469), (0, .ref (ad 0)), (1, .ref b1), (2, .ref b2), (5, .ref b5), (8, .int v8_469), (10, .int v10_469)]) hx hb dL_drives_469 hl (Nat.le_of_ble_eq_true rfl) rfl (fun ls hl => ?_)
    refine lv_iload hx hb dL_drives_471 (lv_at hl 6 rfl) ?_
    refine lv_if_eq (tgt := 488) hx hb dL_drives_473 (by decide) (fun c473 => ?_) (fun c473 => ?_)
    · replace hR := it_t hR c473
      exact hB488 S3_469h S4_469h S5_469h S6_469h v8_469 t0_469 H _ ls hR hP hD hS (lv_sub hl [1, 5, 0] rfl)
    · replace hR := it_f hR c473
      refine lv_aload hx hb dL_drives_476 (lv_at hl 4 rfl) ?_
      refine lv_iconst (v := 3) hx hb dL_drives_478 ic_3 ?_
      refine lv_iload hx hb dL_drives_479 (lv_at hl 5 rfl) ?_
      refine lv_imul hx hb dL_drives_481 ?_
      replace hR := gi_e hR
      obtain ⟨i482, hR⟩ := hR
      refine va_iald hx hb hK hP 4 0 rfl rfl i482 dL_drives_482 ?_
      refine lv_iload hx hb dL_drives_483 (lv_at hl 0 rfl) ?_
      refine lv_icmp_ne (tgt := 507) hx hb dL_drives_485 (by decide) (fun c485 => ?_) (fun c485 => ?_)
      · replace hR := it_f hR c485
        refine lv_aload hx hb dL_drives_507 (lv_at hl 4 rfl) ?_
        refine lv_iconst (v := 3) hx hb dL_drives_509 ic_3 ?_
        refine lv_iload hx hb dL_drives_510 (lv_at hl 5 rfl) ?_
        refine lv_imul hx hb dL_drives_512 ?_
        refine lv_iconst (v := 2) hx hb dL_drives_513 ic_2 ?_
        refine lv_iadd hx hb dL_drives_514 ?_
        refine lv_aload_n hx hb dL_drives_515 rfl (lv_at hl 2 rfl) ?_
        refine lv_iconst (v := 4) hx hb dL_drives_516 ic_4 ?_
        refine va_iald hx hb hK hP 0 0 rfl rfl vi_4_8 dL_drives_517 ?_
        refine lv_iconst (v := 1) hx hb dL_drives_518 ic_1 ?_
        refine lv_iadd hx hb dL_drives_519 ?_
        refine lv_aload_n hx hb dL_drives_520 rfl (lv_at hl 3 rfl) ?_
        refine lv_aload hx hb dL_drives_521 (lv_at hl 4 rfl) ?_
        refine lv_iconst (v := 3) hx hb dL_drives_523 ic_3 ?_
        refine lv_iload hx hb dL_drives_524 (lv_at hl 5 rfl) ?_
        refine lv_imul hx hb dL_drives_526 ?_
        replace hR := gi_e hR
        obtain ⟨i527, hR⟩ := hR
        refine va_iald hx hb hK hP 4 0 rfl rfl i527 dL_drives_527 ?_
        refine lv_iload hx hb dL_drives_528 (lv_at hl 0 rfl) ?_
        replace hR := bd_e hR
        obtain ⟨q530, gq530, hR⟩ := hR
        refine cm_Si (As := [.ref b2, .int (S5_469h  ((3 : Int32) * v8_469).toNatClampNeg), .int t0_469]) (rest := [.int ((S1  (4 : Int32).toNatClampNeg) + 1), .int (((3 : Int32) * v8_469) + 2), .ref b5]) (L := [[(b1, .inl (cs 0, 8, .inl S1))], [(b2, .inl (cs 0, 24, .inl S2))], [(b3, .inl (cs 0, 48, .inl S3_469h))], [(b4, .inl (cs 0, 48, .inl S4_469h))], [(b5, .inl (cs 0, 6, .inl S5_469h))], (w_X10 ad (0) cs en S6_469h)]) (L' := [[(b1, .inl (cs 0, 8, .inl S1))], [(b2, .inl (cs 0, 24, .inl S2))], [(b3, .inl (cs 0, 48, .inl S3_469h))], [(b4, .inl (cs 0, 48, .inl S4_469h))], [(b5, .inl (cs 0, 6, .inl S5_469h))], (w_X10 ad (0) cs en S6_469h)]) (Wc := [[(b2, .inl (cs 0, 24, .inl S2))]]) (Wc' := [[(b2, .inl (cs 0, 24, .inl S2))]]) (is := [1]) (js := [0, 2, 3, 4, 5]) ⟨hx, hb, hml, hown, hts⟩ (k_L_way l dC dI cs ad (b2) H.size S2 (S5_469h  ((3 : Int32) * v8_469).toNatClampNeg) t0_469 q530 gq530) (va_cwS 3 hts gL_drives_L_way rfl rfl rfl cd_L_way.2 ⟨Nat.le_of_ble_eq_true rfl, Nat.le_of_ble_eq_true rfl⟩) hK hP hD hS hA ⟨rfl, rfl, rfl, rfl, rfl, rfl⟩ (jn_nd (is := [1]) hD rfl rfl) rfl rfl hl.1 (Nat.le_of_ble_eq_true rfl) dL_drives_530 ⟨Nat.le_of_ble_eq_true rfl, Nat.le_of_ble_eq_true rfl⟩ (fun H530 locs530 hP' hD' hS' => ?_)
        replace hS := hS'
        replace hP : va_P (dC, dI) vwCl (fl [[(b1, .inl (cs 0, 8, .inl S1))], [(b2, .inl (cs 0, 24, .inl S2))], [(b3, .inl (cs 0, 48, .inl S3_469h))], [(b4, .inl (cs 0, 48, .inl S4_469h))], [(b5, .inl (cs 0, 6, .inl S5_469h))], (w_X10 ad (0) cs en S6_469h)]) H530 := hP'
        replace hD : va_D A (fl [[(b1, .inl (cs 0, 8, .inl S1))], [(b2, .inl (cs 0, 24, .inl S2))], [(b3, .inl (cs 0, 48, .inl S3_469h))], [(b4, .inl (cs 0, 48, .inl S4_469h))], [(b5, .inl (cs 0, 6, .inl S5_469h))], (w_X10 ad (0) cs en S6_469h)]) := hD'
        clear hP' hD' hS'
        refine lv_iconst (v := 2) hx hb dL_drives_533 ic_2 ?_
        refine lv_idiv hx hb dL_drives_534 (by decide) ?_
        refine lv_iadd hx hb dL_drives_535 ?_
        replace hR := gi_e hR
        obtain ⟨i536, hR⟩ := hR
        refine va_iast hx hb hK hP hD hS 4 0 rfl rfl i536 dL_drives_536 (fun H536 locs536 hP' hD' hS' => ?_)
        replace hS := hS'
        have hP' : va_P (dC, dI) vwCl (fl [[(b1, .inl (cs 0, 8, .inl S1))], [(b2, .inl (cs 0, 24, .inl S2))], [(b3, .inl (cs 0, 48, .inl S3_469h))], [(b4, .inl (cs 0, 48, .inl S4_469h))], [(b5, .inl (cs 0, 6, .inl (sU S5_469h (((3 : Int32) * v8_469) + 2).toNatClampNeg (((S1  (4 : Int32).toNatClampNeg) + 1) + (q530 / 2)))))], (w_X10 ad (0) cs en S6_469h)]) H536 := hP'
        have hD' : va_D A (fl [[(b1, .inl (cs 0, 8, .inl S1))], [(b2, .inl (cs 0, 24, .inl S2))], [(b3, .inl (cs 0, 48, .inl S3_469h))], [(b4, .inl (cs 0, 48, .inl S4_469h))], [(b5, .inl (cs 0, 6, .inl (sU S5_469h (((3 : Int32) * v8_469) + 2).toNatClampNeg (((S1  (4 : Int32).toNatClampNeg) + 1) + (q530 / 2)))))], (w_X10 ad (0) cs en S6_469h)]) := hD'
        replace hR := bn_e hR
        obtain ⟨S5_536, eS5_536, hR⟩ := hR
        replace hP : va_P (dC, dI) vwCl (fl [[(b1, .inl (cs 0, 8, .inl S1))], [(b2, .inl (cs 0, 24, .inl S2))], [(b3, .inl (cs 0, 48, .inl S3_469h))], [(b4, .inl (cs 0, 48, .inl S4_469h))], [(b5, .inl (cs 0, 6, .inl S5_536))], (w_X10 ad (0) cs en S6_469h)]) H536 := by rw [eS5_536]; exact hP'
        replace hD : va_D A (fl [[(b1, .inl (cs 0, 8, .inl S1))], [(b2, .inl (cs 0, 24, .inl S2))], [(b3, .inl (cs 0, 48, .inl S3_469h))], [(b4, .inl (cs 0, 48, .inl S4_469h))], [(b5, .inl (cs 0, 6, .inl S5_536))], (w_X10 ad (0) cs en S6_469h)]) := by rw [eS5_536]; exact hD'
        clear hP' hD' hS'
        refine lv_aload hx hb dL_drives_537 (lv_at hl 4 rfl) ?_
        refine lv_iconst (v := 3) hx hb dL_drives_539 ic_3 ?_
        refine lv_iload hx hb dL_drives_540 (lv_at hl 5 rfl) ?_
        refine lv_imul hx hb dL_drives_542 ?_
        refine lv_iload hx hb dL_drives_543 (lv_at hl 0 rfl) ?_
        replace hR := gi_e hR
        obtain ⟨i545, hR⟩ := hR
        refine va_iast hx hb hK hP hD hS 4 0 rfl rfl i545 dL_drives_545 (fun H545 locs545 hP' hD' hS' => ?_)
        replace hS := hS'
        have hP' : va_P (dC, dI) vwCl (fl [[(b1, .inl (cs 0, 8, .inl S1))], [(b2, .inl (cs 0, 24, .inl S2))], [(b3, .inl (cs 0, 48, .inl S3_469h))], [(b4, .inl (cs 0, 48, .inl S4_469h))], [(b5, .inl (cs 0, 6, .inl (sU S5_536 ((3 : Int32) * v8_469).toNatClampNeg t0_469)))], (w_X10 ad (0) cs en S6_469h)]) H545 := hP'
        have hD' : va_D A (fl [[(b1, .inl (cs 0, 8, .inl S1))], [(b2, .inl (cs 0, 24, .inl S2))], [(b3, .inl (cs 0, 48, .inl S3_469h))], [(b4, .inl (cs 0, 48, .inl S4_469h))], [(b5, .inl (cs 0, 6, .inl (sU S5_536 ((3 : Int32) * v8_469).toNatClampNeg t0_469)))], (w_X10 ad (0) cs en S6_469h)]) := hD'
        replace hR := bn_e hR
        obtain ⟨S5_545, eS5_545, hR⟩ := hR
        replace hP : va_P (dC, dI) vwCl (fl [[(b1, .inl (cs 0, 8, .inl S1))], [(b2, .inl (cs 0, 24, .inl S2))], [(b3, .inl (cs 0, 48, .inl S3_469h))], [(b4, .inl (cs 0, 48, .inl S4_469h))], [(b5, .inl (cs 0, 6, .inl S5_545))], (w_X10 ad (0) cs en S6_469h)]) H545 := by rw [eS5_545]; exact hP'
        replace hD : va_D A (fl [[(b1, .inl (cs 0, 8, .inl S1))], [(b2, .inl (cs 0, 24, .inl S2))], [(b3, .inl (cs 0, 48, .inl S3_469h))], [(b4, .inl (cs 0, 48, .inl S4_469h))], [(b5, .inl (cs 0, 6, .inl S5_545))], (w_X10 ad (0) cs en S6_469h)]) := by rw [eS5_545]; exact hD'
        clear hP' hD' hS'
        refine lv_aload_n hx hb dL_drives_546 rfl (lv_at hl 1 rfl) ?_
        refine lv_iload hx hb dL_drives_547 (lv_at hl 5 rfl) ?_
        refine lv_iload hx hb dL_drives_549 (lv_at hl 0 rfl) ?_
        replace hR := bd_e hR
        obtain ⟨q551, gq551, hR⟩ := hR
        refine cm_Vi (As := [.int v8_469, .int t0_469]) (rest := []) (L := [[(b1, .inl (cs 0, 8, .inl S1))], [(b2, .inl (cs 0, 24, .inl S2))], [(b3, .inl (cs 0, 48, .inl S3_469h))], [(b4, .inl (cs 0, 48, .inl S4_469h))], [(b5, .inl (cs 0, 6, .inl S5_545))], (w_X10 ad (0) cs en S6_469h)]) (L' := [[(b1, .inl (cs 0, 8, .inl S1))], [(b2, .inl (cs 0, 24, .inl S2))], [(b3, .inl (cs 0, 48, .inl S3_469h))], [(b4, .inl (cs 0, 48, .inl S4_469h))], [(b5, .inl (cs 0, 6, .inl S5_545))], (w_X10 ad (0) cs en q551.2)]) (Wc := [(w_X10 ad (0) cs en S6_469h)]) (Wc' := [(w_X10 ad (0) cs en q551.2)]) (is := [5]) (js := [0, 1, 2, 3, 4]) ⟨hx, hb, hml, hown, hts⟩ (k_X10_go l dC dI cs ad en H545.size S6_469h v8_469 t0_469 q551.1 q551.2 gq551) (cwV 2 hts gL_drives_X10_go rfl rfl rfl cd_X10_go ⟨Nat.le_of_ble_eq_true rfl, Nat.le_of_ble_eq_true rfl⟩) hK hP hD hS hA (jx_5 (w_X10_fst ad 0 cs en _ _)) (jn_nd (is := [5]) hD rfl rfl) 5 8 rfl rfl rfl rfl rfl hl.1 (Nat.le_of_ble_eq_true rfl) dL_drives_551 ⟨Nat.le_of_ble_eq_true rfl, Nat.le_of_ble_eq_true rfl⟩ (fun H551 locs551 hP' hD' hS' => ?_)
        replace hS := hS'
        replace hP : va_P (dC, dI) vwCl (fl [[(b1, .inl (cs 0, 8, .inl S1))], [(b2, .inl (cs 0, 24, .inl S2))], [(b3, .inl (cs 0, 48, .inl S3_469h))], [(b4, .inl (cs 0, 48, .inl S4_469h))], [(b5, .inl (cs 0, 6, .inl S5_545))], (w_X10 ad (0) cs en q551.2)]) H551 := hP'
        replace hD : va_D A (fl [[(b1, .inl (cs 0, 8, .inl S1))], [(b2, .inl (cs 0, 24, .inl S2))], [(b3, .inl (cs 0, 48, .inl S3_469h))], [(b4, .inl (cs 0, 48, .inl S4_469h))], [(b5, .inl (cs 0, 6, .inl S5_545))], (w_X10 ad (0) cs en q551.2)]) := hD'
        clear hP' hD' hS'
        refine lv_aload hx hb dL_drives_554 (lv_at hl 4 rfl) ?_
        refine lv_iconst (v := 3) hx hb dL_drives_556 ic_3 ?_
        refine lv_iload hx hb dL_drives_557 (lv_at hl 5 rfl) ?_
        refine lv_imul hx hb dL_drives_559 ?_
        refine lv_iconst (v := 2) hx hb dL_drives_560 ic_2 ?_
        refine lv_iadd hx hb dL_drives_561 ?_
        replace hR := gi_e hR
        obtain ⟨i562, hR⟩ := hR
        refine va_iald hx hb hK hP 4 0 rfl rfl i562 dL_drives_562 ?_
        refine lv_icmp_ne (tgt := 570) hx hb dL_drives_563 (by decide) (fun c563 => ?_) (fun c563 => ?_)
        · replace hR := it_f hR c563
          refine lv_iconst (v := 0) hx hb dL_drives_570 ic_0 ?_
          replace hR := Option.some.inj hR
          obtain ⟨e9, hR⟩ := Prod.mk.inj hR
          obtain ⟨eu3, hR⟩ := Prod.mk.inj hR
          obtain ⟨eu4, hR⟩ := Prod.mk.inj hR
          obtain ⟨eu5, hR⟩ := Prod.mk.inj hR
          have eu6 := hR
          replace hP : va_P (dC, dI) vwCl (fl [[(b1, .inl (cs 0, 8, .inl S1))], [(b2, .inl (cs 0, 24, .inl S2))], [(b3, .inl (cs 0, 48, .inl u3))], [(b4, .inl (cs 0, 48, .inl u4))], [(b5, .inl (cs 0, 6, .inl u5))], (w_X10 ad (0) cs en u6)]) H551 := by rw [← eu3, ← eu4, ← eu5, ← eu6]; exact hP
          replace hD : va_D A (fl [[(b1, .inl (cs 0, 8, .inl S1))], [(b2, .inl (cs 0, 24, .inl S2))], [(b3, .inl (cs 0, 48, .inl u3))], [(b4, .inl (cs 0, 48, .inl u4))], [(b5, .inl (cs 0, 6, .inl u5))], (w_X10 ad (0) cs en u6)]) := by rw [← eu3, ← eu4, ← eu5, ← eu6]; exact hD
          exact W.zret (ty := .boolean) hx hb hr (by decide) (fun t ht hW => ⟨⟨_, (), rfl, e9, by rw [ht]; exact hP, va_K.moved hW.alike hK, hD⟩, hS.F ht⟩) hS.2.2 dL_drives_571
        · replace hR := it_t hR c563
          refine lv_iconst (v := 1) hx hb dL_drives_566 ic_1 ?_
          refine lv_goto (tgt := 571) hx hb dL_drives_567 (by decide) ?_
          replace hR := Option.some.inj hR
          obtain ⟨e9, hR⟩ := Prod.mk.inj hR
          obtain ⟨eu3, hR⟩ := Prod.mk.inj hR
          obtain ⟨eu4, hR⟩ := Prod.mk.inj hR
          obtain ⟨eu5, hR⟩ := Prod.mk.inj hR
          have eu6 := hR
          replace hP : va_P (dC, dI) vwCl (fl [[(b1, .inl (cs 0, 8, .inl S1))], [(b2, .inl (cs 0, 24, .inl S2))], [(b3, .inl (cs 0, 48, .inl u3))], [(b4, .inl (cs 0, 48, .inl u4))], [(b5, .inl (cs 0, 6, .inl u5))], (w_X10 ad (0) cs en u6)]) H551 := by rw [← eu3, ← eu4, ← eu5, ← eu6]; exact hP
          replace hD : va_D A (fl [[(b1, .inl (cs 0, 8, .inl S1))], [(b2, .inl (cs 0, 24, .inl S2))], [(b3, .inl (cs 0, 48, .inl u3))], [(b4, .inl (cs 0, 48, .inl u4))], [(b5, .inl (cs 0, 6, .inl u5))], (w_X10 ad (0) cs en u6)]) := by rw [← eu3, ← eu4, ← eu5, ← eu6]; exact hD
          exact W.zret (ty := .boolean) hx hb hr (by decide) (fun t ht hW => ⟨⟨_, (), rfl, e9, by rw [ht]; exact hP, va_K.moved hW.alike hK, hD⟩, hS.F ht⟩) hS.2.2 dL_drives_571
      · replace hR := it_t hR c485
        exact hB488 S3_469h S4_469h S5_469h S6_469h v8_469 t0_469 H _ ls hR hP hD hS (lv_sub hl [1, 5, 0] rfl)
  have hB370 : ∀ (S3_370h : T1) (S4_370h : T1) (S5_370h : T1) (S6_370h : T5) (v8_370 : Int32) (v9_370 : Int32) (H : Heap) (locs : List Loc) (ls : Array Slot), fL_drives_370 S1 S2 p6 p7 S3_370h S4_370h S5_370h S6_370h v8_370 v9_370 = some (r, u3, u4, u5, u6) → va_P (dC, dI) vwCl (fl [[(b1, .inl (cs 0, 8, .inl S1))], [(b2, .inl (cs 0, 24, .inl S2))], [(b3, .inl (cs 0, 48, .inl S3_370h))], [(b4, .inl (cs 0, 48, .inl S4_370h))], [(b5, .inl (cs 0, 6, .inl S5_370h))], (w_X10 ad (0) cs en S6_370h)]) H → va_D A (fl [[(b1, .inl (cs 0, 8, .inl S1))], [(b2, .inl (cs 0, 24, .inl S2))], [(b3, .inl (cs 0, 48, .inl S3_370h))], [(b4, .inl (cs 0, 48, .inl S4_370h))], [(b5, .inl (cs 0, 6, .inl S5_370h))], (w_X10 ad (0) cs en S6_370h)]) → va_S A s.heap H locs → lv_has ls 13 [(0, .ref (ad 0)), (8, .int v8_370), (9, .int v9_370)] → W p l e (headSpec wsL_drives ({ frames := 6, cells := 0, slots := 0, locals := 137 } : Room)).room s m ([.ref (ad 0), .ref b1, .ref b2, .ref b3, .ref b4, .ref b5, .int p6, .int p7] : List Value).toArray below meth c H locs 0 0 (MQ below (QI dC dI (tyL cs) A (fl [[(b1, .inl (cs 0, 8, .inl S1))], [(b2, .inl (cs 0, 24, .inl S2))], [(b3, .inl (cs 0, 48, .inl u3))], [(b4, .inl (cs 0, 48, .inl u4))], [(b5, .inl (cs 0, 6, .inl u5))], (w_X10 ad (0) cs en u6)]) r) ([.ref (ad 0), .ref b1, .ref b2, .ref b3, .ref b4, .ref b5, .int p6, .int p7] : List Value).toArray s 0 0 A) (F0 m 370 ls []) := by
    intro S3_370h S4_370h S5_370h S6_370h v8_370 v9_370 H locs ls hR hP hD hS hl
    refine lv_aload_n hx hb dL_drives_370 rfl (lv_at hl 0 rfl) ?_
    refine lv_iload hx hb dL_drives_371 (lv_at hl 1 rfl) ?_
    refine lv_iload hx hb dL_drives_373 (lv_at hl 2 rfl) ?_
    replace hR := bd_e hR
    obtain ⟨q375, gq375, hR⟩ := hR
    refine cm_Vi (As := [.int v8_370, .int v9_370]) (rest := []) (L := [[(b1, .inl (cs 0, 8, .inl S1))], [(b2, .inl (cs 0, 24, .inl S2))], [(b3, .inl (cs 0, 48, .inl S3_370h))], [(b4, .inl (cs 0, 48, .inl S4_370h))], [(b5, .inl (cs 0, 6, .inl S5_370h))], (w_X10 ad (0) cs en S6_370h)]) (L' := [[(b1, .inl (cs 0, 8, .inl S1))], [(b2, .inl (cs 0, 24, .inl S2))], [(b3, .inl (cs 0, 48, .inl S3_370h))], [(b4, .inl (cs 0, 48, .inl S4_370h))], [(b5, .inl (cs 0, 6, .inl S5_370h))], (w_X10 ad (0) cs en q375.2)]) (Wc := [(w_X10 ad (0) cs en S6_370h)]) (Wc' := [(w_X10 ad (0) cs en q375.2)]) (is := [5]) (js := [0, 1, 2, 3, 4]) ⟨hx, hb, hml, hown, hts⟩ (k_X10_mend l dC dI cs ad en H.size S6_370h v8_370 v9_370 q375.1 q375.2 gq375) (cwV 2 hts gL_drives_X10_mend rfl rfl rfl cd_X10_mend ⟨Nat.le_of_ble_eq_true rfl, Nat.le_of_ble_eq_true rfl⟩) hK hP hD hS hA (jx_5 (w_X10_fst ad 0 cs en _ _)) (jn_nd (is := [5]) hD rfl rfl) 5 8 rfl rfl rfl rfl rfl hl.1 (Nat.le_of_ble_eq_true rfl) dL_drives_375 ⟨Nat.le_of_ble_eq_true rfl, Nat.le_of_ble_eq_true rfl⟩ (fun H375 locs375 hP' hD' hS' => ?_)
    replace hS := hS'
    replace hP : va_P (dC, dI) vwCl (fl [[(b1, .inl (cs 0, 8, .inl S1))], [(b2, .inl (cs 0, 24, .inl S2))], [(b3, .inl (cs 0, 48, .inl S3_370h))], [(b4, .inl (cs 0, 48, .inl S4_370h))], [(b5, .inl (cs 0, 6, .inl S5_370h))], (w_X10 ad (0) cs en q375.2)]) H375 := hP'
    replace hD : va_D A (fl [[(b1, .inl (cs 0, 8, .inl S1))], [(b2, .inl (cs 0, 24, .inl S2))], [(b3, .inl (cs 0, 48, .inl S3_370h))], [(b4, .inl (cs 0, 48, .inl S4_370h))], [(b5, .inl (cs 0, 6, .inl S5_370h))], (w_X10 ad (0) cs en q375.2)]) := hD'
    clear hP' hD' hS'
    refine lv_bipush (v := (-2)) hx hb dL_drives_378 bp_m2 ?_
    refine lv_icmp_ne (tgt := 387) hx hb dL_drives_380 (by decide) (fun c380 => ?_) (fun c380 => ?_)
    · replace hR := it_f hR c380
      refine lv_iconst (v := 0) hx hb dL_drives_387 ic_0 ?_
      replace hR := Option.some.inj hR
      obtain ⟨e9, hR⟩ := Prod.mk.inj hR
      obtain ⟨eu3, hR⟩ := Prod.mk.inj hR
      obtain ⟨eu4, hR⟩ := Prod.mk.inj hR
      obtain ⟨eu5, hR⟩ := Prod.mk.inj hR
      have eu6 := hR
      replace hP : va_P (dC, dI) vwCl (fl [[(b1, .inl (cs 0, 8, .inl S1))], [(b2, .inl (cs 0, 24, .inl S2))], [(b3, .inl (cs 0, 48, .inl u3))], [(b4, .inl (cs 0, 48, .inl u4))], [(b5, .inl (cs 0, 6, .inl u5))], (w_X10 ad (0) cs en u6)]) H375 := by rw [← eu3, ← eu4, ← eu5, ← eu6]; exact hP
      replace hD : va_D A (fl [[(b1, .inl (cs 0, 8, .inl S1))], [(b2, .inl (cs 0, 24, .inl S2))], [(b3, .inl (cs 0, 48, .inl u3))], [(b4, .inl (cs 0, 48, .inl u4))], [(b5, .inl (cs 0, 6, .inl u5))], (w_X10 ad (0) cs en u6)]) := by rw [← eu3, ← eu4, ← eu5, ← eu6]; exact hD
      exact W.zret (ty := .boolean) hx hb hr (by decide) (fun t ht hW => ⟨⟨_, (), rfl, e9, by rw [ht]; exact hP, va_K.moved hW.alike hK, hD⟩, hS.F ht⟩) hS.2.2 dL_drives_388
    · replace hR := it_t hR c380
      refine lv_iconst (v := 1) hx hb dL_drives_383 ic_1 ?_
      refine lv_goto (tgt := 388) hx hb dL_drives_384 (by decide) ?_
      replace hR := Option.some.inj hR
      obtain ⟨e9, hR⟩ := Prod.mk.inj hR
      obtain ⟨eu3, hR⟩ := Prod.mk.inj hR
      obtain ⟨eu4, hR⟩ := Prod.mk.inj hR
      obtain ⟨eu5, hR⟩ := Prod.mk.inj hR
      have eu6 := hR
      replace hP : va_P (dC, dI) vwCl (fl [[(b1, .inl (cs 0, 8, .inl S1))], [(b2, .inl (cs 0, 24, .inl S2))], [(b3, .inl (cs 0, 48, .inl u3))], [(b4, .inl (cs 0, 48, .inl u4))], [(b5, .inl (cs 0, 6, .inl u5))], (w_X10 ad (0) cs en u6)]) H375 := by rw [← eu3, ← eu4, ← eu5, ← eu6]; exact hP
      replace hD : va_D A (fl [[(b1, .inl (cs 0, 8, .inl S1))], [(b2, .inl (cs 0, 24, .inl S2))], [(b3, .inl (cs 0, 48, .inl u3))], [(b4, .inl (cs 0, 48, .inl u4))], [(b5, .inl (cs 0, 6, .inl u5))], (w_X10 ad (0) cs en u6)]) := by rw [← eu3, ← eu4, ← eu5, ← eu6]; exact hD
      exact W.zret (ty := .boolean) hx hb hr (by decide) (fun t ht hW => ⟨⟨_, (), rfl, e9, by rw [ht]; exact hP, va_K.moved hW.alike hK, hD⟩, hS.F ht⟩) hS.2.2 dL_drives_388
  have hB279 : ∀ (S3_279h : T1) (S4_279h : T1) (S5_279h : T1) (S6_279h : T5) (v8_279 : Int32) (v9_279 : Int32) (H : Heap) (locs : List Loc) (ls : Array Slot), fL_drives_279 S1 S2 p6 p7 S3_279h S4_279h S5_279h S6_279h v8_279 v9_279 = some (r, u3, u4, u5, u6) → va_P (dC, dI) vwCl (fl [[(b1, .inl (cs 0, 8, .inl S1))], [(b2, .inl (cs 0, 24, .inl S2))], [(b3, .inl (cs 0, 48, .inl S3_279h))], [(b4, .inl (cs 0, 48, .inl S4_279h))], [(b5, .inl (cs 0, 6, .inl S5_279h))], (w_X10 ad (0) cs en S6_279h)]) H → va_D A (fl [[(b1, .inl (cs 0, 8, .inl S1))], [(b2, .inl (cs 0, 24, .inl S2))], [(b3, .inl (cs 0, 48, .inl S3_279h))], [(b4, .inl (cs 0, 48, .inl S4_279h))], [(b5, .inl (cs 0, 6, .inl S5_279h))], (w_X10 ad (0) cs en S6_279h)]) → va_S A s.heap H locs → lv_has ls 13 [(0, .ref (ad 0)), (8, .int v8_279), (9, .int v9_279)] → W p l e (headSpec wsL_drives ({ frames := 6, cells := 0, slots := 0, locals := 137 } : Room)).room s m ([.ref (ad 0), .ref b1, .ref b2, .ref b3, .ref b4, .ref b5, .int p6, .int p7] : List Value).toArray below meth c H locs 0 0 (MQ below (QI dC dI (tyL cs) A (fl [[(b1, .inl (cs 0, 8, .inl S1))], [(b2, .inl (cs 0, 24, .inl S2))], [(b3, .inl (cs 0, 48, .inl u3))], [(b4, .inl (cs 0, 48, .inl u4))], [(b5, .inl (cs 0, 6, .inl u5))], (w_X10 ad (0) cs en u6)]) r) ([.ref (ad 0), .ref b1, .ref b2, .ref b3, .ref b4, .ref b5, .int p6, .int p7] : List Value).toArray s 0 0 A) (F0 m 279 ls []) := by
    intro S3_279h S4_279h S5_279h S6_279h v8_279 v9_279 H locs ls hR hP hD hS hl
    refine lv_aload_n hx hb dL_drives_279 rfl (lv_at hl 0 rfl) ?_
    refine lv_iload hx hb dL_drives_280 (lv_at hl 1 rfl) ?_
    refine lv_iload hx hb dL_drives_282 (lv_at hl 2 rfl) ?_
    replace hR := bd_e hR
    obtain ⟨q284, gq284, hR⟩ := hR
    refine cm_Vi (As := [.int v8_279, .int v9_279]) (rest := []) (L := [[(b1, .inl (cs 0, 8, .inl S1))], [(b2, .inl (cs 0, 24, .inl S2))], [(b3, .inl (cs 0, 48, .inl S3_279h))], [(b4, .inl (cs 0, 48, .inl S4_279h))], [(b5, .inl (cs 0, 6, .inl S5_279h))], (w_X10 ad (0) cs en S6_279h)]) (L' := [[(b1, .inl (cs 0, 8, .inl S1))], [(b2, .inl (cs 0, 24, .inl S2))], [(b3, .inl (cs 0, 48, .inl S3_279h))], [(b4, .inl (cs 0, 48, .inl S4_279h))], [(b5, .inl (cs 0, 6, .inl S5_279h))], (w_X10 ad (0) cs en q284.2)]) (Wc := [(w_X10 ad (0) cs en S6_279h)]) (Wc' := [(w_X10 ad (0) cs en q284.2)]) (is := [5]) (js := [0, 1, 2, 3, 4]) ⟨hx, hb, hml, hown, hts⟩ (k_X10_put l dC dI cs ad en H.size S6_279h v8_279 v9_279 q284.1 q284.2 gq284) (cwV 2 hts gL_drives_X10_put rfl rfl rfl cd_X10_put ⟨Nat.le_of_ble_eq_true rfl, Nat.le_of_ble_eq_true rfl⟩) hK hP hD hS hA (jx_5 (w_X10_fst ad 0 cs en _ _)) (jn_nd (is := [5]) hD rfl rfl) 5 8 rfl rfl rfl rfl rfl hl.1 (Nat.le_of_ble_eq_true rfl) dL_drives_284 ⟨Nat.le_of_ble_eq_true rfl, Nat.le_of_ble_eq_true rfl⟩ (fun H284 locs284 hP' hD' hS' => ?_)
    replace hS := hS'
    replace hP : va_P (dC, dI) vwCl (fl [[(b1, .inl (cs 0, 8, .inl S1))], [(b2, .inl (cs 0, 24, .inl S2))], [(b3, .inl (cs 0, 48, .inl S3_279h))], [(b4, .inl (cs 0, 48, .inl S4_279h))], [(b5, .inl (cs 0, 6, .inl S5_279h))], (w_X10 ad (0) cs en q284.2)]) H284 := hP'
    replace hD : va_D A (fl [[(b1, .inl (cs 0, 8, .inl S1))], [(b2, .inl (cs 0, 24, .inl S2))], [(b3, .inl (cs 0, 48, .inl S3_279h))], [(b4, .inl (cs 0, 48, .inl S4_279h))], [(b5, .inl (cs 0, 6, .inl S5_279h))], (w_X10 ad (0) cs en q284.2)]) := hD'
    clear hP' hD' hS'
    refine lv_bipush (v := (-2)) hx hb dL_drives_287 bp_m2 ?_
    refine lv_icmp_ne (tgt := 296) hx hb dL_drives_289 (by decide) (fun c289 => ?_) (fun c289 => ?_)
    · replace hR := it_f hR c289
      refine lv_iconst (v := 0) hx hb dL_drives_296 ic_0 ?_
      replace hR := Option.some.inj hR
      obtain ⟨e9, hR⟩ := Prod.mk.inj hR
      obtain ⟨eu3, hR⟩ := Prod.mk.inj hR
      obtain ⟨eu4, hR⟩ := Prod.mk.inj hR
      obtain ⟨eu5, hR⟩ := Prod.mk.inj hR
      have eu6 := hR
      replace hP : va_P (dC, dI) vwCl (fl [[(b1, .inl (cs 0, 8, .inl S1))], [(b2, .inl (cs 0, 24, .inl S2))], [(b3, .inl (cs 0, 48, .inl u3))], [(b4, .inl (cs 0, 48, .inl u4))], [(b5, .inl (cs 0, 6, .inl u5))], (w_X10 ad (0) cs en u6)]) H284 := by rw [← eu3, ← eu4, ← eu5, ← eu6]; exact hP
      replace hD : va_D A (fl [[(b1, .inl (cs 0, 8, .inl S1))], [(b2, .inl (cs 0, 24, .inl S2))], [(b3, .inl (cs 0, 48, .inl u3))], [(b4, .inl (cs 0, 48, .inl u4))], [(b5, .inl (cs 0, 6, .inl u5))], (w_X10 ad (0) cs en u6)]) := by rw [← eu3, ← eu4, ← eu5, ← eu6]; exact hD
      exact W.zret (ty := .boolean) hx hb hr (by decide) (fun t ht hW => ⟨⟨_, (), rfl, e9, by rw [ht]; exact hP, va_K.moved hW.alike hK, hD⟩, hS.F ht⟩) hS.2.2 dL_drives_297
    · replace hR := it_t hR c289
      refine lv_iconst (v := 1) hx hb dL_drives_292 ic_1 ?_
      refine lv_goto (tgt := 297) hx hb dL_drives_293 (by decide) ?_
      replace hR := Option.some.inj hR
      obtain ⟨e9, hR⟩ := Prod.mk.inj hR
      obtain ⟨eu3, hR⟩ := Prod.mk.inj hR
      obtain ⟨eu4, hR⟩ := Prod.mk.inj hR
      obtain ⟨eu5, hR⟩ := Prod.mk.inj hR
      have eu6 := hR
      replace hP : va_P (dC, dI) vwCl (fl [[(b1, .inl (cs 0, 8, .inl S1))], [(b2, .inl (cs 0, 24, .inl S2))], [(b3, .inl (cs 0, 48, .inl u3))], [(b4, .inl (cs 0, 48, .inl u4))], [(b5, .inl (cs 0, 6, .inl u5))], (w_X10 ad (0) cs en u6)]) H284 := by rw [← eu3, ← eu4, ← eu5, ← eu6]; exact hP
      replace hD : va_D A (fl [[(b1, .inl (cs 0, 8, .inl S1))], [(b2, .inl (cs 0, 24, .inl S2))], [(b3, .inl (cs 0, 48, .inl u3))], [(b4, .inl (cs 0, 48, .inl u4))], [(b5, .inl (cs 0, 6, .inl u5))], (w_X10 ad (0) cs en u6)]) := by rw [← eu3, ← eu4, ← eu5, ← eu6]; exact hD
      exact W.zret (ty := .boolean) hx hb hr (by decide) (fun t ht hW => ⟨⟨_, (), rfl, e9, by rw [ht]; exact hP, va_K.moved hW.alike hK, hD⟩, hS.F ht⟩) hS.2.2 dL_drives_297
  have hB187 : ∀ (S3_187h : T1) (S4_187h : T1) (S5_187h : T1) (S6_187h : T5) (v8_187 : Int32) (v9_187 : Int32) (H : Heap) (locs : List Loc) (ls : Array Slot), fL_drives_187 S1 S2 p6 p7 S3_187h S4_187h S5_187h S6_187h v8_187 v9_187 = some (r, u3, u4, u5, u6) → va_P (dC, dI) vwCl (fl [[(b1, .inl (cs 0, 8, .inl S1))], [(b2, .inl (cs 0, 24, .inl S2))], [(b3, .inl (cs 0, 48, .inl S3_187h))], [(b4, .inl (cs 0, 48, .inl S4_187h))], [(b5, .inl (cs 0, 6, .inl S5_187h))], (w_X10 ad (0) cs en S6_187h)]) H → va_D A (fl [[(b1, .inl (cs 0, 8, .inl S1))], [(b2, .inl (cs 0, 24, .inl S2))], [(b3, .inl (cs 0, 48, .inl S3_187h))], [(b4, .inl (cs 0, 48, .inl S4_187h))], [(b5, .inl (cs 0, 6, .inl S5_187h))], (w_X10 ad (0) cs en S6_187h)]) → va_S A s.heap H locs → lv_has ls 13 [(0, .ref (ad 0)), (8, .int v8_187), (9, .int v9_187)] → W p l e (headSpec wsL_drives ({ frames := 6, cells := 0, slots := 0, locals := 137 } : Room)).room s m ([.ref (ad 0), .ref b1, .ref b2, .ref b3, .ref b4, .ref b5, .int p6, .int p7] : List Value).toArray below meth c H locs 0 0 (MQ below (QI dC dI (tyL cs) A (fl [[(b1, .inl (cs 0, 8, .inl S1))], [(b2, .inl (cs 0, 24, .inl S2))], [(b3, .inl (cs 0, 48, .inl u3))], [(b4, .inl (cs 0, 48, .inl u4))], [(b5, .inl (cs 0, 6, .inl u5))], (w_X10 ad (0) cs en u6)]) r) ([.ref (ad 0), .ref b1, .ref b2, .ref b3, .ref b4, .ref b5, .int p6, .int p7] : List Value).toArray s 0 0 A) (F0 m 187 ls []) := by
    intro S3_187h S4_187h S5_187h S6_187h v8_187 v9_187 H locs ls hR hP hD hS hl
    refine lv_aload_n hx hb dL_drives_187 rfl (lv_at hl 0 rfl) ?_
    refine lv_iload hx hb dL_drives_188 (lv_at hl 1 rfl) ?_
    refine lv_iload hx hb dL_drives_190 (lv_at hl 2 rfl) ?_
    replace hR := bd_e hR
    obtain ⟨q192, gq192, hR⟩ := hR
    refine cm_Vi (As := [.int v8_187, .int v9_187]) (rest := []) (L := [[(b1, .inl (cs 0, 8, .inl S1))], [(b2, .inl (cs 0, 24, .inl S2))], [(b3, .inl (cs 0, 48, .inl S3_187h))], [(b4, .inl (cs 0, 48, .inl S4_187h))], [(b5, .inl (cs 0, 6, .inl S5_187h))], (w_X10 ad (0) cs en S6_187h)]) (L' := [[(b1, .inl (cs 0, 8, .inl S1))], [(b2, .inl (cs 0, 24, .inl S2))], [(b3, .inl (cs 0, 48, .inl S3_187h))], [(b4, .inl (cs 0, 48, .inl S4_187h))], [(b5, .inl (cs 0, 6, .inl S5_187h))], (w_X10 ad (0) cs en q192.2)]) (Wc := [(w_X10 ad (0) cs en S6_187h)]) (Wc' := [(w_X10 ad (0) cs en q192.2)]) (is := [5]) (js := [0, 1, 2, 3, 4]) ⟨hx, hb, hml, hown, hts⟩ (k_X10_take l dC dI cs ad en H.size S6_187h v8_187 v9_187 q192.1 q192.2 gq192) (cwV 2 hts gL_drives_X10_take rfl rfl rfl cd_X10_take ⟨Nat.le_of_ble_eq_true rfl, Nat.le_of_ble_eq_true rfl⟩) hK hP hD hS hA (jx_5 (w_X10_fst ad 0 cs en _ _)) (jn_nd (is := [5]) hD rfl rfl) 5 8 rfl rfl rfl rfl rfl hl.1 (Nat.le_of_ble_eq_true rfl) dL_drives_192 ⟨Nat.le_of_ble_eq_true rfl, Nat.le_of_ble_eq_true rfl⟩ (fun H192 locs192 hP' hD' hS' => ?_)
    replace hS := hS'
    replace hP : va_P (dC, dI) vwCl (fl [[(b1, .inl (cs 0, 8, .inl S1))], [(b2, .inl (cs 0, 24, .inl S2))], [(b3, .inl (cs 0, 48, .inl S3_187h))], [(b4, .inl (cs 0, 48, .inl S4_187h))], [(b5, .inl (cs 0, 6, .inl S5_187h))], (w_X10 ad (0) cs en q192.2)]) H192 := hP'
    replace hD : va_D A (fl [[(b1, .inl (cs 0, 8, .inl S1))], [(b2, .inl (cs 0, 24, .inl S2))], [(b3, .inl (cs 0, 48, .inl S3_187h))], [(b4, .inl (cs 0, 48, .inl S4_187h))], [(b5, .inl (cs 0, 6, .inl S5_187h))], (w_X10 ad (0) cs en q192.2)]) := hD'
    clear hP' hD' hS'
    refine lv_bipush (v := (-2)) hx hb dL_drives_195 bp_m2 ?_
    refine lv_icmp_ne (tgt := 204) hx hb dL_drives_197 (by decide) (fun c197 => ?_) (fun c197 => ?_)
    · replace hR := it_f hR c197
      refine lv_iconst (v := 0) hx hb dL_drives_204 ic_0 ?_
      replace hR := Option.some.inj hR
      obtain ⟨e9, hR⟩ := Prod.mk.inj hR
      obtain ⟨eu3, hR⟩ := Prod.mk.inj hR
      obtain ⟨eu4, hR⟩ := Prod.mk.inj hR
      obtain ⟨eu5, hR⟩ := Prod.mk.inj hR
      have eu6 := hR
      replace hP : va_P (dC, dI) vwCl (fl [[(b1, .inl (cs 0, 8, .inl S1))], [(b2, .inl (cs 0, 24, .inl S2))], [(b3, .inl (cs 0, 48, .inl u3))], [(b4, .inl (cs 0, 48, .inl u4))], [(b5, .inl (cs 0, 6, .inl u5))], (w_X10 ad (0) cs en u6)]) H192 := by rw [← eu3, ← eu4, ← eu5, ← eu6]; exact hP
      replace hD : va_D A (fl [[(b1, .inl (cs 0, 8, .inl S1))], [(b2, .inl (cs 0, 24, .inl S2))], [(b3, .inl (cs 0, 48, .inl u3))], [(b4, .inl (cs 0, 48, .inl u4))], [(b5, .inl (cs 0, 6, .inl u5))], (w_X10 ad (0) cs en u6)]) := by rw [← eu3, ← eu4, ← eu5, ← eu6]; exact hD
      exact W.zret (ty := .boolean) hx hb hr (by decide) (fun t ht hW => ⟨⟨_, (), rfl, e9, by rw [ht]; exact hP, va_K.moved hW.alike hK, hD⟩, hS.F ht⟩) hS.2.2 dL_drives_205
    · replace hR := it_t hR c197
      refine lv_iconst (v := 1) hx hb dL_drives_200 ic_1 ?_
      refine lv_goto (tgt := 205) hx hb dL_drives_201 (by decide) ?_
      replace hR := Option.some.inj hR
      obtain ⟨e9, hR⟩ := Prod.mk.inj hR
      obtain ⟨eu3, hR⟩ := Prod.mk.inj hR
      obtain ⟨eu4, hR⟩ := Prod.mk.inj hR
      obtain ⟨eu5, hR⟩ := Prod.mk.inj hR
      have eu6 := hR
      replace hP : va_P (dC, dI) vwCl (fl [[(b1, .inl (cs 0, 8, .inl S1))], [(b2, .inl (cs 0, 24, .inl S2))], [(b3, .inl (cs 0, 48, .inl u3))], [(b4, .inl (cs 0, 48, .inl u4))], [(b5, .inl (cs 0, 6, .inl u5))], (w_X10 ad (0) cs en u6)]) H192 := by rw [← eu3, ← eu4, ← eu5, ← eu6]; exact hP
      replace hD : va_D A (fl [[(b1, .inl (cs 0, 8, .inl S1))], [(b2, .inl (cs 0, 24, .inl S2))], [(b3, .inl (cs 0, 48, .inl u3))], [(b4, .inl (cs 0, 48, .inl u4))], [(b5, .inl (cs 0, 6, .inl u5))], (w_X10 ad (0) cs en u6)]) := by rw [← eu3, ← eu4, ← eu5, ← eu6]; exact hD
      exact W.zret (ty := .boolean) hx hb hr (by decide) (fun t ht hW => ⟨⟨_, (), rfl, e9, by rw [ht]; exact hP, va_K.moved hW.alike hK, hD⟩, hS.F ht⟩) hS.2.2 dL_drives_205
  have hB129 : ∀ (S3_129h : T1) (S4_129h : T1) (S5_129h : T1) (S6_129h : T5) (v8_129 : Int32) (v9_129 : Int32) (v10_129 : Int32) (t0_129 : Int32) (H : Heap) (locs : List Loc) (ls : Array Slot), fL_drives_129 S1 S2 p6 p7 S3_129h S4_129h S5_129h S6_129h v8_129 v9_129 v10_129 t0_129 = some (r, u3, u4, u5, u6) → va_P (dC, dI) vwCl (fl [[(b1, .inl (cs 0, 8, .inl S1))], [(b2, .inl (cs 0, 24, .inl S2))], [(b3, .inl (cs 0, 48, .inl S3_129h))], [(b4, .inl (cs 0, 48, .inl S4_129h))], [(b5, .inl (cs 0, 6, .inl S5_129h))], (w_X10 ad (0) cs en S6_129h)]) H → va_D A (fl [[(b1, .inl (cs 0, 8, .inl S1))], [(b2, .inl (cs 0, 24, .inl S2))], [(b3, .inl (cs 0, 48, .inl S3_129h))], [(b4, .inl (cs 0, 48, .inl S4_129h))], [(b5, .inl (cs 0, 6, .inl S5_129h))], (w_X10 ad (0) cs en S6_129h)]) → va_S A s.heap H locs → lv_has ls 13 [(0, .ref (ad 0)), (1, .ref b1), (2, .ref b2), (3, .ref b3), (4, .ref b4), (5, .ref b5), (6, .int p6), (7, .int p7), (8, .int v8_129), (9, .int v9_129), (10, .int v10_129)] → W p l e (headSpec wsL_drives ({ frames := 6, cells := 0, slots := 0, locals := 137 } : Room)).room s m ([.ref (ad 0), .ref b1, .ref b2, .ref b3, .ref b4, .ref b5, .int p6, .int p7] : List Value).toArray below meth c H locs 0 0 (MQ below (QI dC dI (tyL cs) A (fl [[(b1, .inl (cs 0, 8, .inl S1))], [(b2, .inl (cs 0, 24, .inl S2))], [(b3, .inl (cs 0, 48, .inl u3))], [(b4, .inl (cs 0, 48, .inl u4))], [(b5, .inl (cs 0, 6, .inl u5))], (w_X10 ad (0) cs en u6)]) r) ([.ref (ad 0), .ref b1, .ref b2, .ref b3, .ref b4, .ref b5, .int p6, .int p7] : List Value).toArray s 0 0 A) (F0 m 129 ls [.int t0_129]) := by
    intro S3_129h S4_129h S5_129h S6_129h v8_129 v9_129 v10_129 t0_129 H locs ls hR hP hD hS hl
    refine lv_istore (lv' := [(11, .int t0_129), (0, .ref (ad 0)), (1, .ref b1), (2, .ref b2), (3, .ref b3), (4, .ref b4), (5, .ref b5), (6, .int p6), (7, .int p7), (8, .int v8_129), (9, .int v9_129), (10, .int v10_129)]) hx hb dL_drives_129 hl (Nat.le_of_ble_eq_true rfl) rfl (fun ls hl => ?_)
    refine lv_iload hx hb dL_drives_131 (lv_at hl 7 rfl) ?_
    refine lv_if_ne (tgt := 247) hx hb dL_drives_133 (by decide) (fun c133 => ?_) (fun c133 => ?_)
    · replace hR := it_f hR c133
      refine lv_iload hx hb dL_drives_247 (lv_at hl 7 rfl) ?_
      refine lv_iconst (v := 1) hx hb dL_drives_249 ic_1 ?_
      refine lv_icmp_ne (tgt := 344) hx hb dL_drives_250 (by decide) (fun c250 => ?_) (fun c250 => ?_)
      · replace hR := it_f hR c250
        refine lv_iload hx hb dL_drives_344 (lv_at hl 7 rfl) ?_
        refine lv_iconst (v := 2) hx hb dL_drives_346 ic_2 ?_
        refine lv_icmp_ne (tgt := 449) hx hb dL_drives_347 (by decide) (fun c347 => ?_) (fun c347 => ?_)
        · replace hR := it_f hR c347
          refine lv_iload hx hb dL_drives_449 (lv_at hl 8 rfl) ?_
          refine lv_iconst (v := 2) hx hb dL_drives_451 ic_2 ?_
          refine lv_irem hx hb dL_drives_452 (by decide) ?_
          refine lv_if_ne (tgt := 460) hx hb dL_drives_453 (by decide) (fun c453 => ?_) (fun c453 => ?_)
          · replace hR := it_f hR c453
            refine lv_iload hx hb dL_drives_460 (lv_at hl 8 rfl) ?_
            refine lv_bipush (v := 32) hx hb dL_drives_462 bp_32 ?_
            refine lv_idiv hx hb dL_drives_464 (by decide) ?_
            refine lv_aload_n hx hb dL_drives_465 rfl (lv_at hl 2 rfl) ?_
            refine lv_iconst (v := 0) hx hb dL_drives_466 ic_0 ?_
            refine va_iald hx hb hK hP 0 0 rfl rfl vi_0_8 dL_drives_467 ?_
            replace hR := nz_e hR
            obtain ⟨z468, hR⟩ := hR
            refine lv_irem hx hb dL_drives_468 z468 ?_
            exact hB469 S3_129h S4_129h S5_129h S6_129h v8_129 v10_129 ((p7 / 32) - (p7 / 32) / (S1  (0 : Int32).toNatClampNeg) * (S1  (0 : Int32).toNatClampNeg)) H _ ls hR hP hD hS (lv_sub hl [1, 2, 3, 6, 9, 11] rfl)
          · replace hR := it_t hR c453
            refine lv_iconst (v := 0) hx hb dL_drives_456 ic_0 ?_
            refine lv_goto (tgt := 469) hx hb dL_drives_457 (by decide) ?_
            exact hB469 S3_129h S4_129h S5_129h S6_129h v8_129 v10_129 (0 : Int32) H _ ls hR hP hD hS (lv_sub hl [1, 2, 3, 6, 9, 11] rfl)
        · replace hR := it_t hR c347
          refine lv_iload hx hb dL_drives_350 (lv_at hl 11 rfl) ?_
          refine lv_if_eq (tgt := 370) hx hb dL_drives_352 (by decide) (fun c352 => ?_) (fun c352 => ?_)
          · replace hR := it_t hR c352
            exact hB370 S3_129h S4_129h S5_129h S6_129h v8_129 v9_129 H _ ls hR hP hD hS (lv_sub hl [1, 9, 10] rfl)
          · replace hR := it_f hR c352
            refine lv_iload hx hb dL_drives_355 (lv_at hl 0 rfl) ?_
            refine lv_if_eq (tgt := 370) hx hb dL_drives_357 (by decide) (fun c357 => ?_) (fun c357 => ?_)
            · replace hR := it_t hR c357
              exact hB370 S3_129h S4_129h S5_129h S6_129h v8_129 v9_129 H _ ls hR hP hD hS (lv_sub hl [1, 9, 10] rfl)
            · replace hR := it_f hR c357
              refine lv_aload hx hb dL_drives_360 (lv_at hl 6 rfl) ?_
              refine lv_iconst (v := 3) hx hb dL_drives_362 ic_3 ?_
              refine lv_iload hx hb dL_drives_363 (lv_at hl 9 rfl) ?_
              refine lv_imul hx hb dL_drives_365 ?_
              replace hR := gi_e hR
              obtain ⟨i366, hR⟩ := hR
              refine va_iald hx hb hK hP 4 0 rfl rfl i366 dL_drives_366 ?_
              refine lv_if_le (tgt := 389) hx hb dL_drives_367 (by decide) (fun c367 => ?_) (fun c367 => ?_)
              · replace hR := it_t hR c367
                refine lv_aload_n hx hb dL_drives_389 rfl (lv_at hl 4 rfl) ?_
                refine lv_iconst (v := 3) hx hb dL_drives_390 ic_3 ?_
                refine lv_iload hx hb dL_drives_391 (lv_at hl 10 rfl) ?_
                refine lv_imul hx hb dL_drives_393 ?_
                refine lv_iconst (v := 3) hx hb dL_drives_394 ic_3 ?_
                replace hR := gi_e hR
                obtain ⟨i395, hR⟩ := hR
                refine va_iast hx hb hK hP hD hS 2 0 rfl rfl i395 dL_drives_395 (fun H395 locs395 hP' hD' hS' => ?_)
                replace hS := hS'
                have hP' : va_P (dC, dI) vwCl (fl [[(b1, .inl (cs 0, 8, .inl S1))], [(b2, .inl (cs 0, 24, .inl S2))], [(b3, .inl (cs 0, 48, .inl (sU S3_129h ((3 : Int32) * v9_129).toNatClampNeg (3 : Int32))))], [(b4, .inl (cs 0, 48, .inl S4_129h))], [(b5, .inl (cs 0, 6, .inl S5_129h))], (w_X10 ad (0) cs en S6_129h)]) H395 := hP'
                have hD' : va_D A (fl [[(b1, .inl (cs 0, 8, .inl S1))], [(b2, .inl (cs 0, 24, .inl S2))], [(b3, .inl (cs 0, 48, .inl (sU S3_129h ((3 : Int32) * v9_129).toNatClampNeg (3 : Int32))))], [(b4, .inl (cs 0, 48, .inl S4_129h))], [(b5, .inl (cs 0, 6, .inl S5_129h))], (w_X10 ad (0) cs en S6_129h)]) := hD'
                replace hR := bn_e hR
                obtain ⟨S3_395, eS3_395, hR⟩ := hR
                replace hP : va_P (dC, dI) vwCl (fl [[(b1, .inl (cs 0, 8, .inl S1))], [(b2, .inl (cs 0, 24, .inl S2))], [(b3, .inl (cs 0, 48, .inl S3_395))], [(b4, .inl (cs 0, 48, .inl S4_129h))], [(b5, .inl (cs 0, 6, .inl S5_129h))], (w_X10 ad (0) cs en S6_129h)]) H395 := by rw [eS3_395]; exact hP'
                replace hD : va_D A (fl [[(b1, .inl (cs 0, 8, .inl S1))], [(b2, .inl (cs 0, 24, .inl S2))], [(b3, .inl (cs 0, 48, .inl S3_395))], [(b4, .inl (cs 0, 48, .inl S4_129h))], [(b5, .inl (cs 0, 6, .inl S5_129h))], (w_X10 ad (0) cs en S6_129h)]) := by rw [eS3_395]; exact hD'
                clear hP' hD' hS'
                refine lv_aload_n hx hb dL_drives_396 rfl (lv_at hl 4 rfl) ?_
                refine lv_iconst (v := 3) hx hb dL_drives_397 ic_3 ?_
                refine lv_iload hx hb dL_drives_398 (lv_at hl 10 rfl) ?_
                refine lv_imul hx hb dL_drives_400 ?_
                refine lv_iconst (v := 1) hx hb dL_drives_401 ic_1 ?_
                refine lv_iadd hx hb dL_drives_402 ?_
                refine lv_bipush (v := (-4)) hx hb dL_drives_403 bp_m4 ?_
                replace hR := gi_e hR
                obtain ⟨i405, hR⟩ := hR
                refine va_iast hx hb hK hP hD hS 2 0 rfl rfl i405 dL_drives_405 (fun H405 locs405 hP' hD' hS' => ?_)
                replace hS := hS'
                have hP' : va_P (dC, dI) vwCl (fl [[(b1, .inl (cs 0, 8, .inl S1))], [(b2, .inl (cs 0, 24, .inl S2))], [(b3, .inl (cs 0, 48, .inl (sU S3_395 (((3 : Int32) * v9_129) + 1).toNatClampNeg (-4))))], [(b4, .inl (cs 0, 48, .inl S4_129h))], [(b5, .inl (cs 0, 6, .inl S5_129h))], (w_X10 ad (0) cs en S6_129h)]) H405 := hP'
                have hD' : va_D A (fl [[(b1, .inl (cs 0, 8, .inl S1))], [(b2, .inl (cs 0, 24, .inl S2))], [(b3, .inl (cs 0, 48, .inl (sU S3_395 (((3 : Int32) * v9_129) + 1).toNatClampNeg (-4))))], [(b4, .inl (cs 0, 48, .inl S4_129h))], [(b5, .inl (cs 0, 6, .inl S5_129h))], (w_X10 ad (0) cs en S6_129h)]) := hD'
                replace hR := bn_e hR
                obtain ⟨S3_405, eS3_405, hR⟩ := hR
                replace hP : va_P (dC, dI) vwCl (fl [[(b1, .inl (cs 0, 8, .inl S1))], [(b2, .inl (cs 0, 24, .inl S2))], [(b3, .inl (cs 0, 48, .inl S3_405))], [(b4, .inl (cs 0, 48, .inl S4_129h))], [(b5, .inl (cs 0, 6, .inl S5_129h))], (w_X10 ad (0) cs en S6_129h)]) H405 := by rw [eS3_405]; exact hP'
                replace hD : va_D A (fl [[(b1, .inl (cs 0, 8, .inl S1))], [(b2, .inl (cs 0, 24, .inl S2))], [(b3, .inl (cs 0, 48, .inl S3_405))], [(b4, .inl (cs 0, 48, .inl S4_129h))], [(b5, .inl (cs 0, 6, .inl S5_129h))], (w_X10 ad (0) cs en S6_129h)]) := by rw [eS3_405]; exact hD'
                clear hP' hD' hS'
                refine lv_aload hx hb dL_drives_406 (lv_at hl 5 rfl) ?_
                refine lv_iconst (v := 3) hx hb dL_drives_408 ic_3 ?_
                refine lv_iload hx hb dL_drives_409 (lv_at hl 10 rfl) ?_
                refine lv_imul hx hb dL_drives_411 ?_
                refine lv_iconst (v := 2) hx hb dL_drives_412 ic_2 ?_
                refine lv_iadd hx hb dL_drives_413 ?_
                refine lv_aload_n hx hb dL_drives_414 rfl (lv_at hl 2 rfl) ?_
                refine lv_iconst (v := 4) hx hb dL_drives_415 ic_4 ?_
                refine va_iald hx hb hK hP 0 0 rfl rfl vi_4_8 dL_drives_416 ?_
                refine lv_aload_n hx hb dL_drives_417 rfl (lv_at hl 2 rfl) ?_
                refine lv_bipush (v := 6) hx hb dL_drives_418 bp_6 ?_
                refine va_iald hx hb hK hP 0 0 rfl rfl vi_6_8 dL_drives_420 ?_
                refine lv_iadd hx hb dL_drives_421 ?_
                replace hR := gi_e hR
                obtain ⟨i422, hR⟩ := hR
                refine va_iast hx hb hK hP hD hS 3 0 rfl rfl i422 dL_drives_422 (fun H422 locs422 hP' hD' hS' => ?_)
                replace hS := hS'
                have hP' : va_P (dC, dI) vwCl (fl [[(b1, .inl (cs 0, 8, .inl S1))], [(b2, .inl (cs 0, 24, .inl S2))], [(b3, .inl (cs 0, 48, .inl S3_405))], [(b4, .inl (cs 0, 48, .inl (sU S4_129h (((3 : Int32) * v9_129) + 2).toNatClampNeg ((S1  (4 : Int32).toNatClampNeg) + (S1  (6 : Int32).toNatClampNeg)))))], [(b5, .inl (cs 0, 6, .inl S5_129h))], (w_X10 ad (0) cs en S6_129h)]) H422 := hP'
                have hD' : va_D A (fl [[(b1, .inl (cs 0, 8, .inl S1))], [(b2, .inl (cs 0, 24, .inl S2))], [(b3, .inl (cs 0, 48, .inl S3_405))], [(b4, .inl (cs 0, 48, .inl (sU S4_129h (((3 : Int32) * v9_129) + 2).toNatClampNeg ((S1  (4 : Int32).toNatClampNeg) + (S1  (6 : Int32).toNatClampNeg)))))], [(b5, .inl (cs 0, 6, .inl S5_129h))], (w_X10 ad (0) cs en S6_129h)]) := hD'
                replace hR := bn_e hR
                obtain ⟨S4_422, eS4_422, hR⟩ := hR
                replace hP : va_P (dC, dI) vwCl (fl [[(b1, .inl (cs 0, 8, .inl S1))], [(b2, .inl (cs 0, 24, .inl S2))], [(b3, .inl (cs 0, 48, .inl S3_405))], [(b4, .inl (cs 0, 48, .inl S4_422))], [(b5, .inl (cs 0, 6, .inl S5_129h))], (w_X10 ad (0) cs en S6_129h)]) H422 := by rw [eS4_422]; exact hP'
                replace hD : va_D A (fl [[(b1, .inl (cs 0, 8, .inl S1))], [(b2, .inl (cs 0, 24, .inl S2))], [(b3, .inl (cs 0, 48, .inl S3_405))], [(b4, .inl (cs 0, 48, .inl S4_422))], [(b5, .inl (cs 0, 6, .inl S5_129h))], (w_X10 ad (0) cs en S6_129h)]) := by rw [eS4_422]; exact hD'
                clear hP' hD' hS'
                refine lv_aload_n hx hb dL_drives_423 rfl (lv_at hl 1 rfl) ?_
                refine lv_iload hx hb dL_drives_424 (lv_at hl 9 rfl) ?_
                refine lv_iload hx hb dL_drives_426 (lv_at hl 10 rfl) ?_
                replace hR := bd_e hR
                obtain ⟨q428, gq428, hR⟩ := hR
                refine cm_Vi (As := [.int v8_129, .int v9_129]) (rest := []) (L := [[(b1, .inl (cs 0, 8, .inl S1))], [(b2, .inl (cs 0, 24, .inl S2))], [(b3, .inl (cs 0, 48, .inl S3_405))], [(b4, .inl (cs 0, 48, .inl S4_422))], [(b5, .inl (cs 0, 6, .inl S5_129h))], (w_X10 ad (0) cs en S6_129h)]) (L' := [[(b1, .inl (cs 0, 8, .inl S1))], [(b2, .inl (cs 0, 24, .inl S2))], [(b3, .inl (cs 0, 48, .inl S3_405))], [(b4, .inl (cs 0, 48, .inl S4_422))], [(b5, .inl (cs 0, 6, .inl S5_129h))], (w_X10 ad (0) cs en q428.2)]) (Wc := [(w_X10 ad (0) cs en S6_129h)]) (Wc' := [(w_X10 ad (0) cs en q428.2)]) (is := [5]) (js := [0, 1, 2, 3, 4]) ⟨hx, hb, hml, hown, hts⟩ (k_X10_mend l dC dI cs ad en H422.size S6_129h v8_129 v9_129 q428.1 q428.2 gq428) (cwV 2 hts gL_drives_X10_mend rfl rfl rfl cd_X10_mend ⟨Nat.le_of_ble_eq_true rfl, Nat.le_of_ble_eq_true rfl⟩) hK hP hD hS hA (jx_5 (w_X10_fst ad 0 cs en _ _)) (jn_nd (is := [5]) hD rfl rfl) 5 8 rfl rfl rfl rfl rfl hl.1 (Nat.le_of_ble_eq_true rfl) dL_drives_428 ⟨Nat.le_of_ble_eq_true rfl, Nat.le_of_ble_eq_true rfl⟩ (fun H428 locs428 hP' hD' hS' => ?_)
                replace hS := hS'
                replace hP : va_P (dC, dI) vwCl (fl [[(b1, .inl (cs 0, 8, .inl S1))], [(b2, .inl (cs 0, 24, .inl S2))], [(b3, .inl (cs 0, 48, .inl S3_405))], [(b4, .inl (cs 0, 48, .inl S4_422))], [(b5, .inl (cs 0, 6, .inl S5_129h))], (w_X10 ad (0) cs en q428.2)]) H428 := hP'
                replace hD : va_D A (fl [[(b1, .inl (cs 0, 8, .inl S1))], [(b2, .inl (cs 0, 24, .inl S2))], [(b3, .inl (cs 0, 48, .inl S3_405))], [(b4, .inl (cs 0, 48, .inl S4_422))], [(b5, .inl (cs 0, 6, .inl S5_129h))], (w_X10 ad (0) cs en q428.2)]) := hD'
                clear hP' hD' hS'
                refine lv_aload hx hb dL_drives_431 (lv_at hl 5 rfl) ?_
                refine lv_iconst (v := 3) hx hb dL_drives_433 ic_3 ?_
                refine lv_iload hx hb dL_drives_434 (lv_at hl 10 rfl) ?_
                refine lv_imul hx hb dL_drives_436 ?_
                refine lv_iconst (v := 2) hx hb dL_drives_437 ic_2 ?_
                refine lv_iadd hx hb dL_drives_438 ?_
                replace hR := gi_e hR
                obtain ⟨i439, hR⟩ := hR
                refine va_iald hx hb hK hP 3 0 rfl rfl i439 dL_drives_439 ?_
                refine lv_icmp_ne (tgt := 447) hx hb dL_drives_440 (by decide) (fun c440 => ?_) (fun c440 => ?_)
                · replace hR := it_f hR c440
                  refine lv_iconst (v := 0) hx hb dL_drives_447 ic_0 ?_
                  replace hR := Option.some.inj hR
                  obtain ⟨e9, hR⟩ := Prod.mk.inj hR
                  obtain ⟨eu3, hR⟩ := Prod.mk.inj hR
                  obtain ⟨eu4, hR⟩ := Prod.mk.inj hR
                  obtain ⟨eu5, hR⟩ := Prod.mk.inj hR
                  have eu6 := hR
                  replace hP : va_P (dC, dI) vwCl (fl [[(b1, .inl (cs 0, 8, .inl S1))], [(b2, .inl (cs 0, 24, .inl S2))], [(b3, .inl (cs 0, 48, .inl u3))], [(b4, .inl (cs 0, 48, .inl u4))], [(b5, .inl (cs 0, 6, .inl u5))], (w_X10 ad (0) cs en u6)]) H428 := by rw [← eu3, ← eu4, ← eu5, ← eu6]; exact hP
                  replace hD : va_D A (fl [[(b1, .inl (cs 0, 8, .inl S1))], [(b2, .inl (cs 0, 24, .inl S2))], [(b3, .inl (cs 0, 48, .inl u3))], [(b4, .inl (cs 0, 48, .inl u4))], [(b5, .inl (cs 0, 6, .inl u5))], (w_X10 ad (0) cs en u6)]) := by rw [← eu3, ← eu4, ← eu5, ← eu6]; exact hD
                  exact W.zret (ty := .boolean) hx hb hr (by decide) (fun t ht hW => ⟨⟨_, (), rfl, e9, by rw [ht]; exact hP, va_K.moved hW.alike hK, hD⟩, hS.F ht⟩) hS.2.2 dL_drives_448
                · replace hR := it_t hR c440
                  refine lv_iconst (v := 1) hx hb dL_drives_443 ic_1 ?_
                  refine lv_goto (tgt := 448) hx hb dL_drives_444 (by decide) ?_
                  replace hR := Option.some.inj hR
                  obtain ⟨e9, hR⟩ := Prod.mk.inj hR
                  obtain ⟨eu3, hR⟩ := Prod.mk.inj hR
                  obtain ⟨eu4, hR⟩ := Prod.mk.inj hR
                  obtain ⟨eu5, hR⟩ := Prod.mk.inj hR
                  have eu6 := hR
                  replace hP : va_P (dC, dI) vwCl (fl [[(b1, .inl (cs 0, 8, .inl S1))], [(b2, .inl (cs 0, 24, .inl S2))], [(b3, .inl (cs 0, 48, .inl u3))], [(b4, .inl (cs 0, 48, .inl u4))], [(b5, .inl (cs 0, 6, .inl u5))], (w_X10 ad (0) cs en u6)]) H428 := by rw [← eu3, ← eu4, ← eu5, ← eu6]; exact hP
                  replace hD : va_D A (fl [[(b1, .inl (cs 0, 8, .inl S1))], [(b2, .inl (cs 0, 24, .inl S2))], [(b3, .inl (cs 0, 48, .inl u3))], [(b4, .inl (cs 0, 48, .inl u4))], [(b5, .inl (cs 0, 6, .inl u5))], (w_X10 ad (0) cs en u6)]) := by rw [← eu3, ← eu4, ← eu5, ← eu6]; exact hD
                  exact W.zret (ty := .boolean) hx hb hr (by decide) (fun t ht hW => ⟨⟨_, (), rfl, e9, by rw [ht]; exact hP, va_K.moved hW.alike hK, hD⟩, hS.F ht⟩) hS.2.2 dL_drives_448
              · replace hR := it_f hR c367
                exact hB370 S3_129h S4_129h S5_129h S6_129h v8_129 v9_129 H _ ls hR hP hD hS (lv_sub hl [1, 9, 10] rfl)
      · replace hR := it_t hR c250
        refine lv_iload hx hb dL_drives_253 (lv_at hl 11 rfl) ?_
        refine lv_if_eq (tgt := 279) hx hb dL_drives_255 (by decide) (fun c255 => ?_) (fun c255 => ?_)
        · replace hR := it_t hR c255
          exact hB279 S3_129h S4_129h S5_129h S6_129h v8_129 v9_129 H _ ls hR hP hD hS (lv_sub hl [1, 9, 10] rfl)
        · replace hR := it_f hR c255
          refine lv_iload hx hb dL_drives_258 (lv_at hl 0 rfl) ?_
          refine lv_if_eq (tgt := 279) hx hb dL_drives_260 (by decide) (fun c260 => ?_) (fun c260 => ?_)
          · replace hR := it_t hR c260
            exact hB279 S3_129h S4_129h S5_129h S6_129h v8_129 v9_129 H _ ls hR hP hD hS (lv_sub hl [1, 9, 10] rfl)
          · replace hR := it_f hR c260
            refine lv_aload_n hx hb dL_drives_263 rfl (lv_at hl 2 rfl) ?_
            refine lv_aload_n hx hb dL_drives_264 rfl (lv_at hl 3 rfl) ?_
            refine lv_aload_n hx hb dL_drives_265 rfl (lv_at hl 4 rfl) ?_
            refine lv_aload hx hb dL_drives_266 (lv_at hl 6 rfl) ?_
            refine lv_iconst (v := 3) hx hb dL_drives_268 ic_3 ?_
            refine lv_iload hx hb dL_drives_269 (lv_at hl 9 rfl) ?_
            refine lv_imul hx hb dL_drives_271 ?_
            replace hR := gi_e hR
            obtain ⟨i272, hR⟩ := hR
            refine va_iald hx hb hK hP 4 0 rfl rfl i272 dL_drives_272 ?_
            replace hR := bd_e hR
            obtain ⟨q273, gq273, hR⟩ := hR
            refine cm_Si (As := [.ref b1, .ref b2, .ref b3, .int (S5_129h  ((3 : Int32) * v8_129).toNatClampNeg)]) (rest := []) (L := [[(b1, .inl (cs 0, 8, .inl S1))], [(b2, .inl (cs 0, 24, .inl S2))], [(b3, .inl (cs 0, 48, .inl S3_129h))], [(b4, .inl (cs 0, 48, .inl S4_129h))], [(b5, .inl (cs 0, 6, .inl S5_129h))], (w_X10 ad (0) cs en S6_129h)]) (L' := [[(b1, .inl (cs 0, 8, .inl S1))], [(b2, .inl (cs 0, 24, .inl S2))], [(b3, .inl (cs 0, 48, .inl S3_129h))], [(b4, .inl (cs 0, 48, .inl S4_129h))], [(b5, .inl (cs 0, 6, .inl S5_129h))], (w_X10 ad (0) cs en S6_129h)]) (Wc := [[(b1, .inl (cs 0, 8, .inl S1))], [(b2, .inl (cs 0, 24, .inl S2))], [(b3, .inl (cs 0, 48, .inl S3_129h))]]) (Wc' := [[(b1, .inl (cs 0, 8, .inl S1))], [(b2, .inl (cs 0, 24, .inl S2))], [(b3, .inl (cs 0, 48, .inl S3_129h))]]) (is := [0, 1, 2]) (js := [3, 4, 5]) ⟨hx, hb, hml, hown, hts⟩ (k_L_free l dC dI cs ad (b1) (b2) (b3) H.size S1 S2 S3_129h (S5_129h  ((3 : Int32) * v8_129).toNatClampNeg) q273 gq273) (va_cwS 4 hts gL_drives_L_free rfl rfl rfl cd_L_free.2 ⟨Nat.le_of_ble_eq_true rfl, Nat.le_of_ble_eq_true rfl⟩) hK hP hD hS hA ⟨rfl, rfl, rfl, rfl, rfl, rfl⟩ (jn_nd (is := [0, 1, 2]) hD rfl rfl) rfl rfl hl.1 (Nat.le_of_ble_eq_true rfl) dL_drives_273 ⟨Nat.le_of_ble_eq_true rfl, Nat.le_of_ble_eq_true rfl⟩ (fun H273 locs273 hP' hD' hS' => ?_)
            replace hS := hS'
            replace hP : va_P (dC, dI) vwCl (fl [[(b1, .inl (cs 0, 8, .inl S1))], [(b2, .inl (cs 0, 24, .inl S2))], [(b3, .inl (cs 0, 48, .inl S3_129h))], [(b4, .inl (cs 0, 48, .inl S4_129h))], [(b5, .inl (cs 0, 6, .inl S5_129h))], (w_X10 ad (0) cs en S6_129h)]) H273 := hP'
            replace hD : va_D A (fl [[(b1, .inl (cs 0, 8, .inl S1))], [(b2, .inl (cs 0, 24, .inl S2))], [(b3, .inl (cs 0, 48, .inl S3_129h))], [(b4, .inl (cs 0, 48, .inl S4_129h))], [(b5, .inl (cs 0, 6, .inl S5_129h))], (w_X10 ad (0) cs en S6_129h)]) := hD'
            clear hP' hD' hS'
            refine lv_if_ne (tgt := 298) hx hb dL_drives_276 (by decide) (fun c276 => ?_) (fun c276 => ?_)
            · replace hR := it_f hR c276
              refine lv_aload_n hx hb dL_drives_298 rfl (lv_at hl 4 rfl) ?_
              refine lv_iconst (v := 3) hx hb dL_drives_299 ic_3 ?_
              refine lv_iload hx hb dL_drives_300 (lv_at hl 10 rfl) ?_
              refine lv_imul hx hb dL_drives_302 ?_
              refine lv_iconst (v := 0) hx hb dL_drives_303 ic_0 ?_
              replace hR := gi_e hR
              obtain ⟨i304, hR⟩ := hR
              refine va_iast hx hb hK hP hD hS 2 0 rfl rfl i304 dL_drives_304 (fun H304 locs304 hP' hD' hS' => ?_)
              replace hS := hS'
              have hP' : va_P (dC, dI) vwCl (fl [[(b1, .inl (cs 0, 8, .inl S1))], [(b2, .inl (cs 0, 24, .inl S2))], [(b3, .inl (cs 0, 48, .inl (sU S3_129h ((3 : Int32) * v9_129).toNatClampNeg (0 : Int32))))], [(b4, .inl (cs 0, 48, .inl S4_129h))], [(b5, .inl (cs 0, 6, .inl S5_129h))], (w_X10 ad (0) cs en S6_129h)]) H304 := hP'
              have hD' : va_D A (fl [[(b1, .inl (cs 0, 8, .inl S1))], [(b2, .inl (cs 0, 24, .inl S2))], [(b3, .inl (cs 0, 48, .inl (sU S3_129h ((3 : Int32) * v9_129).toNatClampNeg (0 : Int32))))], [(b4, .inl (cs 0, 48, .inl S4_129h))], [(b5, .inl (cs 0, 6, .inl S5_129h))], (w_X10 ad (0) cs en S6_129h)]) := hD'
              replace hR := bn_e hR
              obtain ⟨S3_304, eS3_304, hR⟩ := hR
              replace hP : va_P (dC, dI) vwCl (fl [[(b1, .inl (cs 0, 8, .inl S1))], [(b2, .inl (cs 0, 24, .inl S2))], [(b3, .inl (cs 0, 48, .inl S3_304))], [(b4, .inl (cs 0, 48, .inl S4_129h))], [(b5, .inl (cs 0, 6, .inl S5_129h))], (w_X10 ad (0) cs en S6_129h)]) H304 := by rw [eS3_304]; exact hP'
              replace hD : va_D A (fl [[(b1, .inl (cs 0, 8, .inl S1))], [(b2, .inl (cs 0, 24, .inl S2))], [(b3, .inl (cs 0, 48, .inl S3_304))], [(b4, .inl (cs 0, 48, .inl S4_129h))], [(b5, .inl (cs 0, 6, .inl S5_129h))], (w_X10 ad (0) cs en S6_129h)]) := by rw [eS3_304]; exact hD'
              clear hP' hD' hS'
              refine lv_aload_n hx hb dL_drives_305 rfl (lv_at hl 4 rfl) ?_
              refine lv_iconst (v := 3) hx hb dL_drives_306 ic_3 ?_
              refine lv_iload hx hb dL_drives_307 (lv_at hl 10 rfl) ?_
              refine lv_imul hx hb dL_drives_309 ?_
              refine lv_iconst (v := 1) hx hb dL_drives_310 ic_1 ?_
              refine lv_iadd hx hb dL_drives_311 ?_
              refine lv_aload hx hb dL_drives_312 (lv_at hl 6 rfl) ?_
              refine lv_iconst (v := 3) hx hb dL_drives_314 ic_3 ?_
              refine lv_iload hx hb dL_drives_315 (lv_at hl 9 rfl) ?_
              refine lv_imul hx hb dL_drives_317 ?_
              replace hR := gi_e hR
              obtain ⟨i318, hR⟩ := hR
              refine va_iald hx hb hK hP 4 0 rfl rfl i318 dL_drives_318 ?_
              replace hR := gi_e hR
              obtain ⟨i319, hR⟩ := hR
              refine va_iast hx hb hK hP hD hS 2 0 rfl rfl i319 dL_drives_319 (fun H319 locs319 hP' hD' hS' => ?_)
              replace hS := hS'
              have hP' : va_P (dC, dI) vwCl (fl [[(b1, .inl (cs 0, 8, .inl S1))], [(b2, .inl (cs 0, 24, .inl S2))], [(b3, .inl (cs 0, 48, .inl (sU S3_304 (((3 : Int32) * v9_129) + 1).toNatClampNeg (S5_129h  ((3 : Int32) * v8_129).toNatClampNeg))))], [(b4, .inl (cs 0, 48, .inl S4_129h))], [(b5, .inl (cs 0, 6, .inl S5_129h))], (w_X10 ad (0) cs en S6_129h)]) H319 := hP'
              have hD' : va_D A (fl [[(b1, .inl (cs 0, 8, .inl S1))], [(b2, .inl (cs 0, 24, .inl S2))], [(b3, .inl (cs 0, 48, .inl (sU S3_304 (((3 : Int32) * v9_129) + 1).toNatClampNeg (S5_129h  ((3 : Int32) * v8_129).toNatClampNeg))))], [(b4, .inl (cs 0, 48, .inl S4_129h))], [(b5, .inl (cs 0, 6, .inl S5_129h))], (w_X10 ad (0) cs en S6_129h)]) := hD'
              replace hR := bn_e hR
              obtain ⟨S3_319, eS3_319, hR⟩ := hR
              replace hP : va_P (dC, dI) vwCl (fl [[(b1, .inl (cs 0, 8, .inl S1))], [(b2, .inl (cs 0, 24, .inl S2))], [(b3, .inl (cs 0, 48, .inl S3_319))], [(b4, .inl (cs 0, 48, .inl S4_129h))], [(b5, .inl (cs 0, 6, .inl S5_129h))], (w_X10 ad (0) cs en S6_129h)]) H319 := by rw [eS3_319]; exact hP'
              replace hD : va_D A (fl [[(b1, .inl (cs 0, 8, .inl S1))], [(b2, .inl (cs 0, 24, .inl S2))], [(b3, .inl (cs 0, 48, .inl S3_319))], [(b4, .inl (cs 0, 48, .inl S4_129h))], [(b5, .inl (cs 0, 6, .inl S5_129h))], (w_X10 ad (0) cs en S6_129h)]) := by rw [eS3_319]; exact hD'
              clear hP' hD' hS'
              refine lv_aload_n hx hb dL_drives_320 rfl (lv_at hl 1 rfl) ?_
              refine lv_iload hx hb dL_drives_321 (lv_at hl 9 rfl) ?_
              refine lv_iload hx hb dL_drives_323 (lv_at hl 10 rfl) ?_
              replace hR := bd_e hR
              obtain ⟨q325, gq325, hR⟩ := hR
              refine cm_Vi (As := [.int v8_129, .int v9_129]) (rest := []) (L := [[(b1, .inl (cs 0, 8, .inl S1))], [(b2, .inl (cs 0, 24, .inl S2))], [(b3, .inl (cs 0, 48, .inl S3_319))], [(b4, .inl (cs 0, 48, .inl S4_129h))], [(b5, .inl (cs 0, 6, .inl S5_129h))], (w_X10 ad (0) cs en S6_129h)]) (L' := [[(b1, .inl (cs 0, 8, .inl S1))], [(b2, .inl (cs 0, 24, .inl S2))], [(b3, .inl (cs 0, 48, .inl S3_319))], [(b4, .inl (cs 0, 48, .inl S4_129h))], [(b5, .inl (cs 0, 6, .inl S5_129h))], (w_X10 ad (0) cs en q325.2)]) (Wc := [(w_X10 ad (0) cs en S6_129h)]) (Wc' := [(w_X10 ad (0) cs en q325.2)]) (is := [5]) (js := [0, 1, 2, 3, 4]) ⟨hx, hb, hml, hown, hts⟩ (k_X10_put l dC dI cs ad en H319.size S6_129h v8_129 v9_129 q325.1 q325.2 gq325) (cwV 2 hts gL_drives_X10_put rfl rfl rfl cd_X10_put ⟨Nat.le_of_ble_eq_true rfl, Nat.le_of_ble_eq_true rfl⟩) hK hP hD hS hA (jx_5 (w_X10_fst ad 0 cs en _ _)) (jn_nd (is := [5]) hD rfl rfl) 5 8 rfl rfl rfl rfl rfl hl.1 (Nat.le_of_ble_eq_true rfl) dL_drives_325 ⟨Nat.le_of_ble_eq_true rfl, Nat.le_of_ble_eq_true rfl⟩ (fun H325 locs325 hP' hD' hS' => ?_)
              replace hS := hS'
              replace hP : va_P (dC, dI) vwCl (fl [[(b1, .inl (cs 0, 8, .inl S1))], [(b2, .inl (cs 0, 24, .inl S2))], [(b3, .inl (cs 0, 48, .inl S3_319))], [(b4, .inl (cs 0, 48, .inl S4_129h))], [(b5, .inl (cs 0, 6, .inl S5_129h))], (w_X10 ad (0) cs en q325.2)]) H325 := hP'
              replace hD : va_D A (fl [[(b1, .inl (cs 0, 8, .inl S1))], [(b2, .inl (cs 0, 24, .inl S2))], [(b3, .inl (cs 0, 48, .inl S3_319))], [(b4, .inl (cs 0, 48, .inl S4_129h))], [(b5, .inl (cs 0, 6, .inl S5_129h))], (w_X10 ad (0) cs en q325.2)]) := hD'
              clear hP' hD' hS'
              refine lv_aload_n hx hb dL_drives_328 rfl (lv_at hl 2 rfl) ?_
              refine lv_aload_n hx hb dL_drives_329 rfl (lv_at hl 4 rfl) ?_
              refine lv_iload hx hb dL_drives_330 (lv_at hl 9 rfl) ?_
              replace hR := bd_e hR
              obtain ⟨q332, gq332, hR⟩ := hR
              refine cm_Si (As := [.ref b1, .ref b3, .int v8_129]) (rest := [.int q325.1]) (L := [[(b1, .inl (cs 0, 8, .inl S1))], [(b2, .inl (cs 0, 24, .inl S2))], [(b3, .inl (cs 0, 48, .inl S3_319))], [(b4, .inl (cs 0, 48, .inl S4_129h))], [(b5, .inl (cs 0, 6, .inl S5_129h))], (w_X10 ad (0) cs en q325.2)]) (L' := [[(b1, .inl (cs 0, 8, .inl S1))], [(b2, .inl (cs 0, 24, .inl S2))], [(b3, .inl (cs 0, 48, .inl S3_319))], [(b4, .inl (cs 0, 48, .inl S4_129h))], [(b5, .inl (cs 0, 6, .inl S5_129h))], (w_X10 ad (0) cs en q325.2)]) (Wc := [[(b1, .inl (cs 0, 8, .inl S1))], [(b3, .inl (cs 0, 48, .inl S3_319))]]) (Wc' := [[(b1, .inl (cs 0, 8, .inl S1))], [(b3, .inl (cs 0, 48, .inl S3_319))]]) (is := [0, 2]) (js := [1, 3, 4, 5]) ⟨hx, hb, hml, hown, hts⟩ (k_L_carried l dC dI cs ad (b1) (b3) H325.size S1 S3_319 v8_129 q332 gq332) (va_cwS 3 hts gL_drives_L_carried rfl rfl rfl cd_L_carried.2 ⟨Nat.le_of_ble_eq_true rfl, Nat.le_of_ble_eq_true rfl⟩) hK hP hD hS hA ⟨rfl, rfl, rfl, rfl, rfl, rfl⟩ (jn_nd (is := [0, 2]) hD rfl rfl) rfl rfl hl.1 (Nat.le_of_ble_eq_true rfl) dL_drives_332 ⟨Nat.le_of_ble_eq_true rfl, Nat.le_of_ble_eq_true rfl⟩ (fun H332 locs332 hP' hD' hS' => ?_)
              replace hS := hS'
              replace hP : va_P (dC, dI) vwCl (fl [[(b1, .inl (cs 0, 8, .inl S1))], [(b2, .inl (cs 0, 24, .inl S2))], [(b3, .inl (cs 0, 48, .inl S3_319))], [(b4, .inl (cs 0, 48, .inl S4_129h))], [(b5, .inl (cs 0, 6, .inl S5_129h))], (w_X10 ad (0) cs en q325.2)]) H332 := hP'
              replace hD : va_D A (fl [[(b1, .inl (cs 0, 8, .inl S1))], [(b2, .inl (cs 0, 24, .inl S2))], [(b3, .inl (cs 0, 48, .inl S3_319))], [(b4, .inl (cs 0, 48, .inl S4_129h))], [(b5, .inl (cs 0, 6, .inl S5_129h))], (w_X10 ad (0) cs en q325.2)]) := hD'
              clear hP' hD' hS'
              refine lv_icmp_ne (tgt := 342) hx hb dL_drives_335 (by decide) (fun c335 => ?_) (fun c335 => ?_)
              · replace hR := it_f hR c335
                refine lv_iconst (v := 0) hx hb dL_drives_342 ic_0 ?_
                replace hR := Option.some.inj hR
                obtain ⟨e9, hR⟩ := Prod.mk.inj hR
                obtain ⟨eu3, hR⟩ := Prod.mk.inj hR
                obtain ⟨eu4, hR⟩ := Prod.mk.inj hR
                obtain ⟨eu5, hR⟩ := Prod.mk.inj hR
                have eu6 := hR
                replace hP : va_P (dC, dI) vwCl (fl [[(b1, .inl (cs 0, 8, .inl S1))], [(b2, .inl (cs 0, 24, .inl S2))], [(b3, .inl (cs 0, 48, .inl u3))], [(b4, .inl (cs 0, 48, .inl u4))], [(b5, .inl (cs 0, 6, .inl u5))], (w_X10 ad (0) cs en u6)]) H332 := by rw [← eu3, ← eu4, ← eu5, ← eu6]; exact hP
                replace hD : va_D A (fl [[(b1, .inl (cs 0, 8, .inl S1))], [(b2, .inl (cs 0, 24, .inl S2))], [(b3, .inl (cs 0, 48, .inl u3))], [(b4, .inl (cs 0, 48, .inl u4))], [(b5, .inl (cs 0, 6, .inl u5))], (w_X10 ad (0) cs en u6)]) := by rw [← eu3, ← eu4, ← eu5, ← eu6]; exact hD
                exact W.zret (ty := .boolean) hx hb hr (by decide) (fun t ht hW => ⟨⟨_, (), rfl, e9, by rw [ht]; exact hP, va_K.moved hW.alike hK, hD⟩, hS.F ht⟩) hS.2.2 dL_drives_343
              · replace hR := it_t hR c335
                refine lv_iconst (v := 1) hx hb dL_drives_338 ic_1 ?_
                refine lv_goto (tgt := 343) hx hb dL_drives_339 (by decide) ?_
                replace hR := Option.some.inj hR
                obtain ⟨e9, hR⟩ := Prod.mk.inj hR
                obtain ⟨eu3, hR⟩ := Prod.mk.inj hR
                obtain ⟨eu4, hR⟩ := Prod.mk.inj hR
                obtain ⟨eu5, hR⟩ := Prod.mk.inj hR
                have eu6 := hR
                replace hP : va_P (dC, dI) vwCl (fl [[(b1, .inl (cs 0, 8, .inl S1))], [(b2, .inl (cs 0, 24, .inl S2))], [(b3, .inl (cs 0, 48, .inl u3))], [(b4, .inl (cs 0, 48, .inl u4))], [(b5, .inl (cs 0, 6, .inl u5))], (w_X10 ad (0) cs en u6)]) H332 := by rw [← eu3, ← eu4, ← eu5, ← eu6]; exact hP
                replace hD : va_D A (fl [[(b1, .inl (cs 0, 8, .inl S1))], [(b2, .inl (cs 0, 24, .inl S2))], [(b3, .inl (cs 0, 48, .inl u3))], [(b4, .inl (cs 0, 48, .inl u4))], [(b5, .inl (cs 0, 6, .inl u5))], (w_X10 ad (0) cs en u6)]) := by rw [← eu3, ← eu4, ← eu5, ← eu6]; exact hD
                exact W.zret (ty := .boolean) hx hb hr (by decide) (fun t ht hW => ⟨⟨_, (), rfl, e9, by rw [ht]; exact hP, va_K.moved hW.alike hK, hD⟩, hS.F ht⟩) hS.2.2 dL_drives_343
            · replace hR := it_t hR c276
              exact hB279 S3_129h S4_129h S5_129h S6_129h v8_129 v9_129 H273 _ ls hR hP hD hS (lv_sub hl [1, 9, 10] rfl)
    · replace hR := it_t hR c133
      refine lv_iload hx hb dL_drives_136 (lv_at hl 11 rfl) ?_
      refine lv_if_eq (tgt := 187) hx hb dL_drives_138 (by decide) (fun c138 => ?_) (fun c138 => ?_)
      · replace hR := it_t hR c138
        exact hB187 S3_129h S4_129h S5_129h S6_129h v8_129 v9_129 H _ ls hR hP hD hS (lv_sub hl [1, 9, 10] rfl)
      · replace hR := it_f hR c138
        refine lv_aload_n hx hb dL_drives_141 rfl (lv_at hl 2 rfl) ?_
        refine lv_aload_n hx hb dL_drives_142 rfl (lv_at hl 4 rfl) ?_
        refine lv_iload hx hb dL_drives_143 (lv_at hl 9 rfl) ?_
        replace hR := bd_e hR
        obtain ⟨q145, gq145, hR⟩ := hR
        refine cm_Si (As := [.ref b1, .ref b3, .int v8_129]) (rest := []) (L := [[(b1, .inl (cs 0, 8, .inl S1))], [(b2, .inl (cs 0, 24, .inl S2))], [(b3, .inl (cs 0, 48, .inl S3_129h))], [(b4, .inl (cs 0, 48, .inl S4_129h))], [(b5, .inl (cs 0, 6, .inl S5_129h))], (w_X10 ad (0) cs en S6_129h)]) (L' := [[(b1, .inl (cs 0, 8, .inl S1))], [(b2, .inl (cs 0, 24, .inl S2))], [(b3, .inl (cs 0, 48, .inl S3_129h))], [(b4, .inl (cs 0, 48, .inl S4_129h))], [(b5, .inl (cs 0, 6, .inl S5_129h))], (w_X10 ad (0) cs en S6_129h)]) (Wc := [[(b1, .inl (cs 0, 8, .inl S1))], [(b3, .inl (cs 0, 48, .inl S3_129h))]]) (Wc' := [[(b1, .inl (cs 0, 8, .inl S1))], [(b3, .inl (cs 0, 48, .inl S3_129h))]]) (is := [0, 2]) (js := [1, 3, 4, 5]) ⟨hx, hb, hml, hown, hts⟩ (k_L_carried l dC dI cs ad (b1) (b3) H.size S1 S3_129h v8_129 q145 gq145) (va_cwS 3 hts gL_drives_L_carried rfl rfl rfl cd_L_carried.2 ⟨Nat.le_of_ble_eq_true rfl, Nat.le_of_ble_eq_true rfl⟩) hK hP hD hS hA ⟨rfl, rfl, rfl, rfl, rfl, rfl⟩ (jn_nd (is := [0, 2]) hD rfl rfl) rfl rfl hl.1 (Nat.le_of_ble_eq_true rfl) dL_drives_145 ⟨Nat.le_of_ble_eq_true rfl, Nat.le_of_ble_eq_true rfl⟩ (fun H145 locs145 hP' hD' hS' => ?_)
        replace hS := hS'
        replace hP : va_P (dC, dI) vwCl (fl [[(b1, .inl (cs 0, 8, .inl S1))], [(b2, .inl (cs 0, 24, .inl S2))], [(b3, .inl (cs 0, 48, .inl S3_129h))], [(b4, .inl (cs 0, 48, .inl S4_129h))], [(b5, .inl (cs 0, 6, .inl S5_129h))], (w_X10 ad (0) cs en S6_129h)]) H145 := hP'
        replace hD : va_D A (fl [[(b1, .inl (cs 0, 8, .inl S1))], [(b2, .inl (cs 0, 24, .inl S2))], [(b3, .inl (cs 0, 48, .inl S3_129h))], [(b4, .inl (cs 0, 48, .inl S4_129h))], [(b5, .inl (cs 0, 6, .inl S5_129h))], (w_X10 ad (0) cs en S6_129h)]) := hD'
        clear hP' hD' hS'
        refine lv_aload hx hb dL_drives_148 (lv_at hl 6 rfl) ?_
        refine lv_iconst (v := 3) hx hb dL_drives_150 ic_3 ?_
        refine lv_iload hx hb dL_drives_151 (lv_at hl 9 rfl) ?_
        refine lv_imul hx hb dL_drives_153 ?_
        refine lv_iconst (v := 1) hx hb dL_drives_154 ic_1 ?_
        refine lv_iadd hx hb dL_drives_155 ?_
        replace hR := gi_e hR
        obtain ⟨i156, hR⟩ := hR
        refine va_iald hx hb hK hP 4 0 rfl rfl i156 dL_drives_156 ?_
        refine lv_icmp_ge (tgt := 187) hx hb dL_drives_157 (by decide) (fun c157 => ?_) (fun c157 => ?_)
        · replace hR := it_t hR c157
          exact hB187 S3_129h S4_129h S5_129h S6_129h v8_129 v9_129 H145 _ ls hR hP hD hS (lv_sub hl [1, 9, 10] rfl)
        · replace hR := it_f hR c157
          refine lv_aload_n hx hb dL_drives_160 rfl (lv_at hl 4 rfl) ?_
          refine lv_iconst (v := 3) hx hb dL_drives_161 ic_3 ?_
          refine lv_iload hx hb dL_drives_162 (lv_at hl 10 rfl) ?_
          refine lv_imul hx hb dL_drives_164 ?_
          replace hR := gi_e hR
          obtain ⟨i165, hR⟩ := hR
          refine va_iald hx hb hK hP 2 0 rfl rfl i165 dL_drives_165 ?_
          refine lv_if_ne (tgt := 187) hx hb dL_drives_166 (by decide) (fun c166 => ?_) (fun c166 => ?_)
          · replace hR := it_f hR c166
            exact hB187 S3_129h S4_129h S5_129h S6_129h v8_129 v9_129 H145 _ ls hR hP hD hS (lv_sub hl [1, 9, 10] rfl)
          · replace hR := it_t hR c166
            refine lv_aload_n hx hb dL_drives_169 rfl (lv_at hl 4 rfl) ?_
            refine lv_iconst (v := 3) hx hb dL_drives_170 ic_3 ?_
            refine lv_iload hx hb dL_drives_171 (lv_at hl 10 rfl) ?_
            refine lv_imul hx hb dL_drives_173 ?_
            refine lv_iconst (v := 1) hx hb dL_drives_174 ic_1 ?_
            refine lv_iadd hx hb dL_drives_175 ?_
            replace hR := gi_e hR
            obtain ⟨i176, hR⟩ := hR
            refine va_iald hx hb hK hP 2 0 rfl rfl i176 dL_drives_176 ?_
            refine lv_aload hx hb dL_drives_177 (lv_at hl 6 rfl) ?_
            refine lv_iconst (v := 3) hx hb dL_drives_179 ic_3 ?_
            refine lv_iload hx hb dL_drives_180 (lv_at hl 9 rfl) ?_
            refine lv_imul hx hb dL_drives_182 ?_
            replace hR := gi_e hR
            obtain ⟨i183, hR⟩ := hR
            refine va_iald hx hb hK hP 4 0 rfl rfl i183 dL_drives_183 ?_
            refine lv_icmp_eq (tgt := 206) hx hb dL_drives_184 (by decide) (fun c184 => ?_) (fun c184 => ?_)
            · replace hR := it_t hR c184
              refine lv_aload_n hx hb dL_drives_206 rfl (lv_at hl 4 rfl) ?_
              refine lv_iconst (v := 3) hx hb dL_drives_207 ic_3 ?_
              refine lv_iload hx hb dL_drives_208 (lv_at hl 10 rfl) ?_
              refine lv_imul hx hb dL_drives_210 ?_
              refine lv_iconst (v := 2) hx hb dL_drives_211 ic_2 ?_
              replace hR := gi_e hR
              obtain ⟨i212, hR⟩ := hR
              refine va_iast hx hb hK hP hD hS 2 0 rfl rfl i212 dL_drives_212 (fun H212 locs212 hP' hD' hS' => ?_)
              replace hS := hS'
              have hP' : va_P (dC, dI) vwCl (fl [[(b1, .inl (cs 0, 8, .inl S1))], [(b2, .inl (cs 0, 24, .inl S2))], [(b3, .inl (cs 0, 48, .inl (sU S3_129h ((3 : Int32) * v9_129).toNatClampNeg (2 : Int32))))], [(b4, .inl (cs 0, 48, .inl S4_129h))], [(b5, .inl (cs 0, 6, .inl S5_129h))], (w_X10 ad (0) cs en S6_129h)]) H212 := hP'
              have hD' : va_D A (fl [[(b1, .inl (cs 0, 8, .inl S1))], [(b2, .inl (cs 0, 24, .inl S2))], [(b3, .inl (cs 0, 48, .inl (sU S3_129h ((3 : Int32) * v9_129).toNatClampNeg (2 : Int32))))], [(b4, .inl (cs 0, 48, .inl S4_129h))], [(b5, .inl (cs 0, 6, .inl S5_129h))], (w_X10 ad (0) cs en S6_129h)]) := hD'
              replace hR := bn_e hR
              obtain ⟨S3_212, eS3_212, hR⟩ := hR
              replace hP : va_P (dC, dI) vwCl (fl [[(b1, .inl (cs 0, 8, .inl S1))], [(b2, .inl (cs 0, 24, .inl S2))], [(b3, .inl (cs 0, 48, .inl S3_212))], [(b4, .inl (cs 0, 48, .inl S4_129h))], [(b5, .inl (cs 0, 6, .inl S5_129h))], (w_X10 ad (0) cs en S6_129h)]) H212 := by rw [eS3_212]; exact hP'
              replace hD : va_D A (fl [[(b1, .inl (cs 0, 8, .inl S1))], [(b2, .inl (cs 0, 24, .inl S2))], [(b3, .inl (cs 0, 48, .inl S3_212))], [(b4, .inl (cs 0, 48, .inl S4_129h))], [(b5, .inl (cs 0, 6, .inl S5_129h))], (w_X10 ad (0) cs en S6_129h)]) := by rw [eS3_212]; exact hD'
              clear hP' hD' hS'
              refine lv_aload_n hx hb dL_drives_213 rfl (lv_at hl 4 rfl) ?_
              refine lv_iconst (v := 3) hx hb dL_drives_214 ic_3 ?_
              refine lv_iload hx hb dL_drives_215 (lv_at hl 10 rfl) ?_
              refine lv_imul hx hb dL_drives_217 ?_
              refine lv_iconst (v := 1) hx hb dL_drives_218 ic_1 ?_
              refine lv_iadd hx hb dL_drives_219 ?_
              refine lv_iload hx hb dL_drives_220 (lv_at hl 9 rfl) ?_
              replace hR := gi_e hR
              obtain ⟨i222, hR⟩ := hR
              refine va_iast hx hb hK hP hD hS 2 0 rfl rfl i222 dL_drives_222 (fun H222 locs222 hP' hD' hS' => ?_)
              replace hS := hS'
              have hP' : va_P (dC, dI) vwCl (fl [[(b1, .inl (cs 0, 8, .inl S1))], [(b2, .inl (cs 0, 24, .inl S2))], [(b3, .inl (cs 0, 48, .inl (sU S3_212 (((3 : Int32) * v9_129) + 1).toNatClampNeg v8_129)))], [(b4, .inl (cs 0, 48, .inl S4_129h))], [(b5, .inl (cs 0, 6, .inl S5_129h))], (w_X10 ad (0) cs en S6_129h)]) H222 := hP'
              have hD' : va_D A (fl [[(b1, .inl (cs 0, 8, .inl S1))], [(b2, .inl (cs 0, 24, .inl S2))], [(b3, .inl (cs 0, 48, .inl (sU S3_212 (((3 : Int32) * v9_129) + 1).toNatClampNeg v8_129)))], [(b4, .inl (cs 0, 48, .inl S4_129h))], [(b5, .inl (cs 0, 6, .inl S5_129h))], (w_X10 ad (0) cs en S6_129h)]) := hD'
              replace hR := bn_e hR
              obtain ⟨S3_222, eS3_222, hR⟩ := hR
              replace hP : va_P (dC, dI) vwCl (fl [[(b1, .inl (cs 0, 8, .inl S1))], [(b2, .inl (cs 0, 24, .inl S2))], [(b3, .inl (cs 0, 48, .inl S3_222))], [(b4, .inl (cs 0, 48, .inl S4_129h))], [(b5, .inl (cs 0, 6, .inl S5_129h))], (w_X10 ad (0) cs en S6_129h)]) H222 := by rw [eS3_222]; exact hP'
              replace hD : va_D A (fl [[(b1, .inl (cs 0, 8, .inl S1))], [(b2, .inl (cs 0, 24, .inl S2))], [(b3, .inl (cs 0, 48, .inl S3_222))], [(b4, .inl (cs 0, 48, .inl S4_129h))], [(b5, .inl (cs 0, 6, .inl S5_129h))], (w_X10 ad (0) cs en S6_129h)]) := by rw [eS3_222]; exact hD'
              clear hP' hD' hS'
              refine lv_aload_n hx hb dL_drives_223 rfl (lv_at hl 1 rfl) ?_
              refine lv_iload hx hb dL_drives_224 (lv_at hl 9 rfl) ?_
              refine lv_iload hx hb dL_drives_226 (lv_at hl 10 rfl) ?_
              replace hR := bd_e hR
              obtain ⟨q228, gq228, hR⟩ := hR
              refine cm_Vi (As := [.int v8_129, .int v9_129]) (rest := []) (L := [[(b1, .inl (cs 0, 8, .inl S1))], [(b2, .inl (cs 0, 24, .inl S2))], [(b3, .inl (cs 0, 48, .inl S3_222))], [(b4, .inl (cs 0, 48, .inl S4_129h))], [(b5, .inl (cs 0, 6, .inl S5_129h))], (w_X10 ad (0) cs en S6_129h)]) (L' := [[(b1, .inl (cs 0, 8, .inl S1))], [(b2, .inl (cs 0, 24, .inl S2))], [(b3, .inl (cs 0, 48, .inl S3_222))], [(b4, .inl (cs 0, 48, .inl S4_129h))], [(b5, .inl (cs 0, 6, .inl S5_129h))], (w_X10 ad (0) cs en q228.2)]) (Wc := [(w_X10 ad (0) cs en S6_129h)]) (Wc' := [(w_X10 ad (0) cs en q228.2)]) (is := [5]) (js := [0, 1, 2, 3, 4]) ⟨hx, hb, hml, hown, hts⟩ (k_X10_take l dC dI cs ad en H222.size S6_129h v8_129 v9_129 q228.1 q228.2 gq228) (cwV 2 hts gL_drives_X10_take rfl rfl rfl cd_X10_take ⟨Nat.le_of_ble_eq_true rfl, Nat.le_of_ble_eq_true rfl⟩) hK hP hD hS hA (jx_5 (w_X10_fst ad 0 cs en _ _)) (jn_nd (is := [5]) hD rfl rfl) 5 8 rfl rfl rfl rfl rfl hl.1 (Nat.le_of_ble_eq_true rfl) dL_drives_228 ⟨Nat.le_of_ble_eq_true rfl, Nat.le_of_ble_eq_true rfl⟩ (fun H228 locs228 hP' hD' hS' => ?_)
              replace hS := hS'
              replace hP : va_P (dC, dI) vwCl (fl [[(b1, .inl (cs 0, 8, .inl S1))], [(b2, .inl (cs 0, 24, .inl S2))], [(b3, .inl (cs 0, 48, .inl S3_222))], [(b4, .inl (cs 0, 48, .inl S4_129h))], [(b5, .inl (cs 0, 6, .inl S5_129h))], (w_X10 ad (0) cs en q228.2)]) H228 := hP'
              replace hD : va_D A (fl [[(b1, .inl (cs 0, 8, .inl S1))], [(b2, .inl (cs 0, 24, .inl S2))], [(b3, .inl (cs 0, 48, .inl S3_222))], [(b4, .inl (cs 0, 48, .inl S4_129h))], [(b5, .inl (cs 0, 6, .inl S5_129h))], (w_X10 ad (0) cs en q228.2)]) := hD'
              clear hP' hD' hS'
              refine lv_aload_n hx hb dL_drives_231 rfl (lv_at hl 2 rfl) ?_
              refine lv_aload_n hx hb dL_drives_232 rfl (lv_at hl 4 rfl) ?_
              refine lv_iload hx hb dL_drives_233 (lv_at hl 9 rfl) ?_
              replace hR := bd_e hR
              obtain ⟨q235, gq235, hR⟩ := hR
              refine cm_Si (As := [.ref b1, .ref b3, .int v8_129]) (rest := [.int q228.1]) (L := [[(b1, .inl (cs 0, 8, .inl S1))], [(b2, .inl (cs 0, 24, .inl S2))], [(b3, .inl (cs 0, 48, .inl S3_222))], [(b4, .inl (cs 0, 48, .inl S4_129h))], [(b5, .inl (cs 0, 6, .inl S5_129h))], (w_X10 ad (0) cs en q228.2)]) (L' := [[(b1, .inl (cs 0, 8, .inl S1))], [(b2, .inl (cs 0, 24, .inl S2))], [(b3, .inl (cs 0, 48, .inl S3_222))], [(b4, .inl (cs 0, 48, .inl S4_129h))], [(b5, .inl (cs 0, 6, .inl S5_129h))], (w_X10 ad (0) cs en q228.2)]) (Wc := [[(b1, .inl (cs 0, 8, .inl S1))], [(b3, .inl (cs 0, 48, .inl S3_222))]]) (Wc' := [[(b1, .inl (cs 0, 8, .inl S1))], [(b3, .inl (cs 0, 48, .inl S3_222))]]) (is := [0, 2]) (js := [1, 3, 4, 5]) ⟨hx, hb, hml, hown, hts⟩ (k_L_carried l dC dI cs ad (b1) (b3) H228.size S1 S3_222 v8_129 q235 gq235) (va_cwS 3 hts gL_drives_L_carried rfl rfl rfl cd_L_carried.2 ⟨Nat.le_of_ble_eq_true rfl, Nat.le_of_ble_eq_true rfl⟩) hK hP hD hS hA ⟨rfl, rfl, rfl, rfl, rfl, rfl⟩ (jn_nd (is := [0, 2]) hD rfl rfl) rfl rfl hl.1 (Nat.le_of_ble_eq_true rfl) dL_drives_235 ⟨Nat.le_of_ble_eq_true rfl, Nat.le_of_ble_eq_true rfl⟩ (fun H235 locs235 hP' hD' hS' => ?_)
              replace hS := hS'
              replace hP : va_P (dC, dI) vwCl (fl [[(b1, .inl (cs 0, 8, .inl S1))], [(b2, .inl (cs 0, 24, .inl S2))], [(b3, .inl (cs 0, 48, .inl S3_222))], [(b4, .inl (cs 0, 48, .inl S4_129h))], [(b5, .inl (cs 0, 6, .inl S5_129h))], (w_X10 ad (0) cs en q228.2)]) H235 := hP'
              replace hD : va_D A (fl [[(b1, .inl (cs 0, 8, .inl S1))], [(b2, .inl (cs 0, 24, .inl S2))], [(b3, .inl (cs 0, 48, .inl S3_222))], [(b4, .inl (cs 0, 48, .inl S4_129h))], [(b5, .inl (cs 0, 6, .inl S5_129h))], (w_X10 ad (0) cs en q228.2)]) := hD'
              clear hP' hD' hS'
              refine lv_icmp_ne (tgt := 245) hx hb dL_drives_238 (by decide) (fun c238 => ?_) (fun c238 => ?_)
              · replace hR := it_f hR c238
                refine lv_iconst (v := 0) hx hb dL_drives_245 ic_0 ?_
                replace hR := Option.some.inj hR
                obtain ⟨e9, hR⟩ := Prod.mk.inj hR
                obtain ⟨eu3, hR⟩ := Prod.mk.inj hR
                obtain ⟨eu4, hR⟩ := Prod.mk.inj hR
                obtain ⟨eu5, hR⟩ := Prod.mk.inj hR
                have eu6 := hR
                replace hP : va_P (dC, dI) vwCl (fl [[(b1, .inl (cs 0, 8, .inl S1))], [(b2, .inl (cs 0, 24, .inl S2))], [(b3, .inl (cs 0, 48, .inl u3))], [(b4, .inl (cs 0, 48, .inl u4))], [(b5, .inl (cs 0, 6, .inl u5))], (w_X10 ad (0) cs en u6)]) H235 := by rw [← eu3, ← eu4, ← eu5, ← eu6]; exact hP
                replace hD : va_D A (fl [[(b1, .inl (cs 0, 8, .inl S1))], [(b2, .inl (cs 0, 24, .inl S2))], [(b3, .inl (cs 0, 48, .inl u3))], [(b4, .inl (cs 0, 48, .inl u4))], [(b5, .inl (cs 0, 6, .inl u5))], (w_X10 ad (0) cs en u6)]) := by rw [← eu3, ← eu4, ← eu5, ← eu6]; exact hD
                exact W.zret (ty := .boolean) hx hb hr (by decide) (fun t ht hW => ⟨⟨_, (), rfl, e9, by rw [ht]; exact hP, va_K.moved hW.alike hK, hD⟩, hS.F ht⟩) hS.2.2 dL_drives_246
              · replace hR := it_t hR c238
                refine lv_iconst (v := 1) hx hb dL_drives_241 ic_1 ?_
                refine lv_goto (tgt := 246) hx hb dL_drives_242 (by decide) ?_
                replace hR := Option.some.inj hR
                obtain ⟨e9, hR⟩ := Prod.mk.inj hR
                obtain ⟨eu3, hR⟩ := Prod.mk.inj hR
                obtain ⟨eu4, hR⟩ := Prod.mk.inj hR
                obtain ⟨eu5, hR⟩ := Prod.mk.inj hR
                have eu6 := hR
                replace hP : va_P (dC, dI) vwCl (fl [[(b1, .inl (cs 0, 8, .inl S1))], [(b2, .inl (cs 0, 24, .inl S2))], [(b3, .inl (cs 0, 48, .inl u3))], [(b4, .inl (cs 0, 48, .inl u4))], [(b5, .inl (cs 0, 6, .inl u5))], (w_X10 ad (0) cs en u6)]) H235 := by rw [← eu3, ← eu4, ← eu5, ← eu6]; exact hP
                replace hD : va_D A (fl [[(b1, .inl (cs 0, 8, .inl S1))], [(b2, .inl (cs 0, 24, .inl S2))], [(b3, .inl (cs 0, 48, .inl u3))], [(b4, .inl (cs 0, 48, .inl u4))], [(b5, .inl (cs 0, 6, .inl u5))], (w_X10 ad (0) cs en u6)]) := by rw [← eu3, ← eu4, ← eu5, ← eu6]; exact hD
                exact W.zret (ty := .boolean) hx hb hr (by decide) (fun t ht hW => ⟨⟨_, (), rfl, e9, by rw [ht]; exact hP, va_K.moved hW.alike hK, hD⟩, hS.F ht⟩) hS.2.2 dL_drives_246
            · replace hR := it_f hR c184
              exact hB187 S3_129h S4_129h S5_129h S6_129h v8_129 v9_129 H145 _ ls hR hP hD hS (lv_sub hl [1, 9, 10] rfl)
  have hB128 : ∀ (S3_128h : T1) (S4_128h : T1) (S5_128h : T1) (S6_128h : T5) (v8_128 : Int32) (v9_128 : Int32) (v10_128 : Int32) (H : Heap) (locs : List Loc) (ls : Array Slot), fL_drives_128 S1 S2 p6 p7 S3_128h S4_128h S5_128h S6_128h v8_128 v9_128 v10_128 = some (r, u3, u4, u5, u6) → va_P (dC, dI) vwCl (fl [[(b1, .inl (cs 0, 8, .inl S1))], [(b2, .inl (cs 0, 24, .inl S2))], [(b3, .inl (cs 0, 48, .inl S3_128h))], [(b4, .inl (cs 0, 48, .inl S4_128h))], [(b5, .inl (cs 0, 6, .inl S5_128h))], (w_X10 ad (0) cs en S6_128h)]) H → va_D A (fl [[(b1, .inl (cs 0, 8, .inl S1))], [(b2, .inl (cs 0, 24, .inl S2))], [(b3, .inl (cs 0, 48, .inl S3_128h))], [(b4, .inl (cs 0, 48, .inl S4_128h))], [(b5, .inl (cs 0, 6, .inl S5_128h))], (w_X10 ad (0) cs en S6_128h)]) → va_S A s.heap H locs → lv_has ls 13 [(0, .ref (ad 0)), (1, .ref b1), (2, .ref b2), (3, .ref b3), (4, .ref b4), (5, .ref b5), (6, .int p6), (7, .int p7), (8, .int v8_128), (9, .int v9_128), (10, .int v10_128)] → W p l e (headSpec wsL_drives ({ frames := 6, cells := 0, slots := 0, locals := 137 } : Room)).room s m ([.ref (ad 0), .ref b1, .ref b2, .ref b3, .ref b4, .ref b5, .int p6, .int p7] : List Value).toArray below meth c H locs 0 0 (MQ below (QI dC dI (tyL cs) A (fl [[(b1, .inl (cs 0, 8, .inl S1))], [(b2, .inl (cs 0, 24, .inl S2))], [(b3, .inl (cs 0, 48, .inl u3))], [(b4, .inl (cs 0, 48, .inl u4))], [(b5, .inl (cs 0, 6, .inl u5))], (w_X10 ad (0) cs en u6)]) r) ([.ref (ad 0), .ref b1, .ref b2, .ref b3, .ref b4, .ref b5, .int p6, .int p7] : List Value).toArray s 0 0 A) (F0 m 128 ls []) := by
    intro S3_128h S4_128h S5_128h S6_128h v8_128 v9_128 v10_128 H locs ls hR hP hD hS hl
    refine lv_iconst (v := 0) hx hb dL_drives_128 ic_0 ?_
    exact hB129 S3_128h S4_128h S5_128h S6_128h v8_128 v9_128 v10_128 (0 : Int32) H _ ls hR hP hD hS (lv_sub hl [0, 1, 2, 3, 4, 5, 6, 7, 8, 9, 10] rfl)
  have hB99 : ∀ (S3_99h : T1) (S4_99h : T1) (S5_99h : T1) (S6_99h : T5) (v8_99 : Int32) (v9_99 : Int32) (t0_99 : Int32) (H : Heap) (locs : List Loc) (ls : Array Slot), fL_drives_99 S1 S2 p6 p7 S3_99h S4_99h S5_99h S6_99h v8_99 v9_99 t0_99 = some (r, u3, u4, u5, u6) → va_P (dC, dI) vwCl (fl [[(b1, .inl (cs 0, 8, .inl S1))], [(b2, .inl (cs 0, 24, .inl S2))], [(b3, .inl (cs 0, 48, .inl S3_99h))], [(b4, .inl (cs 0, 48, .inl S4_99h))], [(b5, .inl (cs 0, 6, .inl S5_99h))], (w_X10 ad (0) cs en S6_99h)]) H → va_D A (fl [[(b1, .inl (cs 0, 8, .inl S1))], [(b2, .inl (cs 0, 24, .inl S2))], [(b3, .inl (cs 0, 48, .inl S3_99h))], [(b4, .inl (cs 0, 48, .inl S4_99h))], [(b5, .inl (cs 0, 6, .inl S5_99h))], (w_X10 ad (0) cs en S6_99h)]) → va_S A s.heap H locs → lv_has ls 13 [(0, .ref (ad 0)), (1, .ref b1), (2, .ref b2), (3, .ref b3), (4, .ref b4), (5, .ref b5), (6, .int p6), (7, .int p7), (8, .int v8_99), (9, .int v9_99)] → W p l e (headSpec wsL_drives ({ frames := 6, cells := 0, slots := 0, locals := 137 } : Room)).room s m ([.ref (ad 0), .ref b1, .ref b2, .ref b3, .ref b4, .ref b5, .int p6, .int p7] : List Value).toArray below meth c H locs 0 0 (MQ below (QI dC dI (tyL cs) A (fl [[(b1, .inl (cs 0, 8, .inl S1))], [(b2, .inl (cs 0, 24, .inl S2))], [(b3, .inl (cs 0, 48, .inl u3))], [(b4, .inl (cs 0, 48, .inl u4))], [(b5, .inl (cs 0, 6, .inl u5))], (w_X10 ad (0) cs en u6)]) r) ([.ref (ad 0), .ref b1, .ref b2, .ref b3, .ref b4, .ref b5, .int p6, .int p7] : List Value).toArray s 0 0 A) (F0 m 99 ls [.int t0_99]) := by
    intro S3_99h S4_99h S5_99h S6_99h v8_99 v9_99 t0_99 H locs ls hR hP hD hS hl
    refine lv_istore (lv' := [(10, .int t0_99), (0, .ref (ad 0)), (1, .ref b1), (2, .ref b2), (3, .ref b3), (4, .ref b4), (5, .ref b5), (6, .int p6), (7, .int p7), (8, .int v8_99), (9, .int v9_99)]) hx hb dL_drives_99 hl (Nat.le_of_ble_eq_true rfl) rfl (fun ls hl => ?_)
    refine lv_aload_n hx hb dL_drives_101 rfl (lv_at hl 4 rfl) ?_
    refine lv_iconst (v := 3) hx hb dL_drives_102 ic_3 ?_
    refine lv_iload hx hb dL_drives_103 (lv_at hl 10 rfl) ?_
    refine lv_imul hx hb dL_drives_105 ?_
    replace hR := gi_e hR
    obtain ⟨i106, hR⟩ := hR
    refine va_iald hx hb hK hP 2 0 rfl rfl i106 dL_drives_106 ?_
    refine lv_iconst (v := 2) hx hb dL_drives_107 ic_2 ?_
    refine lv_icmp_ne (tgt := 128) hx hb dL_drives_108 (by decide) (fun c108 => ?_) (fun c108 => ?_)
    · replace hR := it_f hR c108
      exact hB128 S3_99h S4_99h S5_99h S6_99h v8_99 v9_99 t0_99 H _ ls hR hP hD hS (lv_sub hl [1, 2, 3, 4, 5, 6, 7, 8, 9, 10, 0] rfl)
    · replace hR := it_t hR c108
      refine lv_aload_n hx hb dL_drives_111 rfl (lv_at hl 4 rfl) ?_
      refine lv_iconst (v := 3) hx hb dL_drives_112 ic_3 ?_
      refine lv_iload hx hb dL_drives_113 (lv_at hl 10 rfl) ?_
      refine lv_imul hx hb dL_drives_115 ?_
      refine lv_iconst (v := 1) hx hb dL_drives_116 ic_1 ?_
      refine lv_iadd hx hb dL_drives_117 ?_
      replace hR := gi_e hR
      obtain ⟨i118, hR⟩ := hR
      refine va_iald hx hb hK hP 2 0 rfl rfl i118 dL_drives_118 ?_
      refine lv_iload hx hb dL_drives_119 (lv_at hl 9 rfl) ?_
      refine lv_icmp_ne (tgt := 128) hx hb dL_drives_121 (by decide) (fun c121 => ?_) (fun c121 => ?_)
      · replace hR := it_f hR c121
        exact hB128 S3_99h S4_99h S5_99h S6_99h v8_99 v9_99 t0_99 H _ ls hR hP hD hS (lv_sub hl [1, 2, 3, 4, 5, 6, 7, 8, 9, 10, 0] rfl)
      · replace hR := it_t hR c121
        refine lv_iconst (v := 1) hx hb dL_drives_124 ic_1 ?_
        refine lv_goto (tgt := 129) hx hb dL_drives_125 (by decide) ?_
        exact hB129 S3_99h S4_99h S5_99h S6_99h v8_99 v9_99 t0_99 (1 : Int32) H _ ls hR hP hD hS (lv_sub hl [1, 2, 3, 4, 5, 6, 7, 8, 9, 10, 0] rfl)
  have hB79 : ∀ (S3_79h : T1) (S4_79h : T1) (S5_79h : T1) (S6_79h : T5) (v8_79 : Int32) (v9_79 : Int32) (H : Heap) (locs : List Loc) (ls : Array Slot), fL_drives_79 S1 S2 p6 p7 S3_79h S4_79h S5_79h S6_79h v8_79 v9_79 = some (r, u3, u4, u5, u6) → va_P (dC, dI) vwCl (fl [[(b1, .inl (cs 0, 8, .inl S1))], [(b2, .inl (cs 0, 24, .inl S2))], [(b3, .inl (cs 0, 48, .inl S3_79h))], [(b4, .inl (cs 0, 48, .inl S4_79h))], [(b5, .inl (cs 0, 6, .inl S5_79h))], (w_X10 ad (0) cs en S6_79h)]) H → va_D A (fl [[(b1, .inl (cs 0, 8, .inl S1))], [(b2, .inl (cs 0, 24, .inl S2))], [(b3, .inl (cs 0, 48, .inl S3_79h))], [(b4, .inl (cs 0, 48, .inl S4_79h))], [(b5, .inl (cs 0, 6, .inl S5_79h))], (w_X10 ad (0) cs en S6_79h)]) → va_S A s.heap H locs → lv_has ls 13 [(0, .ref (ad 0)), (1, .ref b1), (2, .ref b2), (3, .ref b3), (4, .ref b4), (5, .ref b5), (6, .int p6), (7, .int p7), (8, .int v8_79), (9, .int v9_79)] → W p l e (headSpec wsL_drives ({ frames := 6, cells := 0, slots := 0, locals := 137 } : Room)).room s m ([.ref (ad 0), .ref b1, .ref b2, .ref b3, .ref b4, .ref b5, .int p6, .int p7] : List Value).toArray below meth c H locs 0 0 (MQ below (QI dC dI (tyL cs) A (fl [[(b1, .inl (cs 0, 8, .inl S1))], [(b2, .inl (cs 0, 24, .inl S2))], [(b3, .inl (cs 0, 48, .inl u3))], [(b4, .inl (cs 0, 48, .inl u4))], [(b5, .inl (cs 0, 6, .inl u5))], (w_X10 ad (0) cs en u6)]) r) ([.ref (ad 0), .ref b1, .ref b2, .ref b3, .ref b4, .ref b5, .int p6, .int p7] : List Value).toArray s 0 0 A) (F0 m 79 ls []) := by
    intro S3_79h S4_79h S5_79h S6_79h v8_79 v9_79 H locs ls hR hP hD hS hl
    refine lv_aload hx hb dL_drives_79 (lv_at hl 5 rfl) ?_
    refine lv_iconst (v := 3) hx hb dL_drives_81 ic_3 ?_
    refine lv_iload hx hb dL_drives_82 (lv_at hl 8 rfl) ?_
    refine lv_imul hx hb dL_drives_84 ?_
    refine lv_iconst (v := 2) hx hb dL_drives_85 ic_2 ?_
    refine lv_iadd hx hb dL_drives_86 ?_
    replace hR := gi_e hR
    obtain ⟨i87, hR⟩ := hR
    refine va_iald hx hb hK hP 4 0 rfl rfl i87 dL_drives_87 ?_
    refine lv_aload_n hx hb dL_drives_88 rfl (lv_at hl 1 rfl) ?_
    refine lv_iconst (v := 4) hx hb dL_drives_89 ic_4 ?_
    refine va_iald hx hb hK hP 0 0 rfl rfl vi_4_8 dL_drives_90 ?_
    refine lv_icmp_gt (tgt := 98) hx hb dL_drives_91 (by decide) (fun c91 => ?_) (fun c91 => ?_)
    · replace hR := it_t hR c91
      refine lv_iconst (v := 0) hx hb dL_drives_98 ic_0 ?_
      exact hB99 S3_79h S4_79h S5_79h S6_79h v8_79 v9_79 (0 : Int32) H _ ls hR hP hD hS (lv_sub hl [0, 1, 2, 3, 4, 5, 6, 7, 8, 9] rfl)
    · replace hR := it_f hR c91
      refine lv_iconst (v := 1) hx hb dL_drives_94 ic_1 ?_
      refine lv_goto (tgt := 99) hx hb dL_drives_95 (by decide) ?_
      exact hB99 S3_79h S4_79h S5_79h S6_79h v8_79 v9_79 (1 : Int32) H _ ls hR hP hD hS (lv_sub hl [0, 1, 2, 3, 4, 5, 6, 7, 8, 9] rfl)
  have hB21 : ∀ (n21 : Nat), ∀ (S3_21h : T1) (S4_21h : T1) (S5_21h : T1) (S6_21h : T5) (v8_21 : Int32) (v9_21 : Int32) (v10_21 : Int32) (H : Heap) (locs : List Loc) (ls : Array Slot), fL_drives_21 S1 S2 p6 p7 n21 S3_21h S4_21h S5_21h S6_21h v8_21 v9_21 v10_21 = some (r, u3, u4, u5, u6) → va_P (dC, dI) vwCl (fl [[(b1, .inl (cs 0, 8, .inl S1))], [(b2, .inl (cs 0, 24, .inl S2))], [(b3, .inl (cs 0, 48, .inl S3_21h))], [(b4, .inl (cs 0, 48, .inl S4_21h))], [(b5, .inl (cs 0, 6, .inl S5_21h))], (w_X10 ad (0) cs en S6_21h)]) H → va_D A (fl [[(b1, .inl (cs 0, 8, .inl S1))], [(b2, .inl (cs 0, 24, .inl S2))], [(b3, .inl (cs 0, 48, .inl S3_21h))], [(b4, .inl (cs 0, 48, .inl S4_21h))], [(b5, .inl (cs 0, 6, .inl S5_21h))], (w_X10 ad (0) cs en S6_21h)]) → va_S A s.heap H locs → lv_has ls 13 [(0, .ref (ad 0)), (1, .ref b1), (2, .ref b2), (3, .ref b3), (4, .ref b4), (5, .ref b5), (6, .int p6), (7, .int p7), (8, .int v8_21), (9, .int v9_21), (10, .int v10_21)] → W p l e (headSpec wsL_drives ({ frames := 6, cells := 0, slots := 0, locals := 137 } : Room)).room s m ([.ref (ad 0), .ref b1, .ref b2, .ref b3, .ref b4, .ref b5, .int p6, .int p7] : List Value).toArray below meth c H locs 0 0 (MQ below (QI dC dI (tyL cs) A (fl [[(b1, .inl (cs 0, 8, .inl S1))], [(b2, .inl (cs 0, 24, .inl S2))], [(b3, .inl (cs 0, 48, .inl u3))], [(b4, .inl (cs 0, 48, .inl u4))], [(b5, .inl (cs 0, 6, .inl u5))], (w_X10 ad (0) cs en u6)]) r) ([.ref (ad 0), .ref b1, .ref b2, .ref b3, .ref b4, .ref b5, .int p6, .int p7] : List Value).toArray s 0 0 A) (F0 m 21 ls []) := by
    intro n21
    induction n21 with
    | zero =>
      intro S3_21h S4_21h S5_21h S6_21h v8_21 v9_21 v10_21 H locs ls hR hP hD hS hl
      exact nn_e hR
    | succ n21 hI21 =>
      have hB71 : ∀ (S3_71h : T1) (S4_71h : T1) (S5_71h : T1) (S6_71h : T5) (v8_71 : Int32) (v10_71 : Int32) (t0_71 : Int32) (H : Heap) (locs : List Loc) (ls : Array Slot), fL_drives_71 (fL_drives_21 S1 S2 p6 p7 n21) S1 S2 p6 p7 S3_71h S4_71h S5_71h S6_71h v8_71 v10_71 t0_71 = some (r, u3, u4, u5, u6) → va_P (dC, dI) vwCl (fl [[(b1, .inl (cs 0, 8, .inl S1))], [(b2, .inl (cs 0, 24, .inl S2))], [(b3, .inl (cs 0, 48, .inl S3_71h))], [(b4, .inl (cs 0, 48, .inl S4_71h))], [(b5, .inl (cs 0, 6, .inl S5_71h))], (w_X10 ad (0) cs en S6_71h)]) H → va_D A (fl [[(b1, .inl (cs 0, 8, .inl S1))], [(b2, .inl (cs 0, 24, .inl S2))], [(b3, .inl (cs 0, 48, .inl S3_71h))], [(b4, .inl (cs 0, 48, .inl S4_71h))], [(b5, .inl (cs 0, 6, .inl S5_71h))], (w_X10 ad (0) cs en S6_71h)]) → va_S A s.heap H locs → lv_has ls 13 [(0, .ref (ad 0)), (1, .ref b1), (2, .ref b2), (3, .ref b3), (4, .ref b4), (5, .ref b5), (6, .int p6), (7, .int p7), (8, .int v8_71), (10, .int v10_71)] → W p l e (headSpec wsL_drives ({ frames := 6, cells := 0, slots := 0, locals := 137 } : Room)).room s m ([.ref (ad 0), .ref b1, .ref b2, .ref b3, .ref b4, .ref b5, .int p6, .int p7] : List Value).toArray below meth c H locs 0 0 (MQ below (QI dC dI (tyL cs) A (fl [[(b1, .inl (cs 0, 8, .inl S1))], [(b2, .inl (cs 0, 24, .inl S2))], [(b3, .inl (cs 0, 48, .inl u3))], [(b4, .inl (cs 0, 48, .inl u4))], [(b5, .inl (cs 0, 6, .inl u5))], (w_X10 ad (0) cs en u6)]) r) ([.ref (ad 0), .ref b1, .ref b2, .ref b3, .ref b4, .ref b5, .int p6, .int p7] : List Value).toArray s 0 0 A) (F0 m 71 ls [.int t0_71]) := by
        intro S3_71h S4_71h S5_71h S6_71h v8_71 v10_71 t0_71 H locs ls hR hP hD hS hl
        refine lv_istore (lv' := [(9, .int t0_71), (0, .ref (ad 0)), (1, .ref b1), (2, .ref b2), (3, .ref b3), (4, .ref b4), (5, .ref b5), (6, .int p6), (7, .int p7), (8, .int v8_71), (10, .int v10_71)]) hx hb dL_drives_71 hl (Nat.le_of_ble_eq_true rfl) rfl (fun ls hl => ?_)
        refine lv_iinc (v := (v10_71 + 1)) (lv' := [(10, .int (v10_71 + 1)), (9, .int t0_71), (0, .ref (ad 0)), (1, .ref b1), (2, .ref b2), (3, .ref b3), (4, .ref b4), (5, .ref b5), (6, .int p6), (7, .int p7), (8, .int v8_71)]) hx hb dL_drives_73 hl (k := 10) rfl rfl (Nat.le_of_ble_eq_true rfl) rfl (fun ls hl => ?_)
        refine lv_goto (tgt := 21) hx hb dL_drives_76 (by decide) ?_
        exact hI21 S3_71h S4_71h S5_71h S6_71h v8_71 t0_71 (v10_71 + 1) H _ ls hR hP hD hS (lv_sub hl [2, 3, 4, 5, 6, 7, 8, 9, 10, 1, 0] rfl)
      have hB69 : ∀ (S3_69h : T1) (S4_69h : T1) (S5_69h : T1) (S6_69h : T5) (v8_69 : Int32) (v9_69 : Int32) (v10_69 : Int32) (H : Heap) (locs : List Loc) (ls : Array Slot), fL_drives_69 (fL_drives_21 S1 S2 p6 p7 n21) S1 S2 p6 p7 S3_69h S4_69h S5_69h S6_69h v8_69 v9_69 v10_69 = some (r, u3, u4, u5, u6) → va_P (dC, dI) vwCl (fl [[(b1, .inl (cs 0, 8, .inl S1))], [(b2, .inl (cs 0, 24, .inl S2))], [(b3, .inl (cs 0, 48, .inl S3_69h))], [(b4, .inl (cs 0, 48, .inl S4_69h))], [(b5, .inl (cs 0, 6, .inl S5_69h))], (w_X10 ad (0) cs en S6_69h)]) H → va_D A (fl [[(b1, .inl (cs 0, 8, .inl S1))], [(b2, .inl (cs 0, 24, .inl S2))], [(b3, .inl (cs 0, 48, .inl S3_69h))], [(b4, .inl (cs 0, 48, .inl S4_69h))], [(b5, .inl (cs 0, 6, .inl S5_69h))], (w_X10 ad (0) cs en S6_69h)]) → va_S A s.heap H locs → lv_has ls 13 [(0, .ref (ad 0)), (1, .ref b1), (2, .ref b2), (3, .ref b3), (4, .ref b4), (5, .ref b5), (6, .int p6), (7, .int p7), (8, .int v8_69), (9, .int v9_69), (10, .int v10_69)] → W p l e (headSpec wsL_drives ({ frames := 6, cells := 0, slots := 0, locals := 137 } : Room)).room s m ([.ref (ad 0), .ref b1, .ref b2, .ref b3, .ref b4, .ref b5, .int p6, .int p7] : List Value).toArray below meth c H locs 0 0 (MQ below (QI dC dI (tyL cs) A (fl [[(b1, .inl (cs 0, 8, .inl S1))], [(b2, .inl (cs 0, 24, .inl S2))], [(b3, .inl (cs 0, 48, .inl u3))], [(b4, .inl (cs 0, 48, .inl u4))], [(b5, .inl (cs 0, 6, .inl u5))], (w_X10 ad (0) cs en u6)]) r) ([.ref (ad 0), .ref b1, .ref b2, .ref b3, .ref b4, .ref b5, .int p6, .int p7] : List Value).toArray s 0 0 A) (F0 m 69 ls []) := by
        intro S3_69h S4_69h S5_69h S6_69h v8_69 v9_69 v10_69 H locs ls hR hP hD hS hl
        refine lv_iload hx hb dL_drives_69 (lv_at hl 9 rfl) ?_
        exact hB71 S3_69h S4_69h S5_69h S6_69h v8_69 v10_69 v9_69 H _ ls hR hP hD hS (lv_sub hl [0, 1, 2, 3, 4, 5, 6, 7, 8, 10] rfl)
      intro S3_21h S4_21h S5_21h S6_21h v8_21 v9_21 v10_21 H locs ls hR hP hD hS hl
      rw [fL_drives_21] at hR
      refine lv_iload hx hb dL_drives_21 (lv_at hl 10 rfl) ?_
      refine lv_aload_n hx hb dL_drives_23 rfl (lv_at hl 1 rfl) ?_
      refine lv_iconst (v := 1) hx hb dL_drives_24 ic_1 ?_
      refine va_iald hx hb hK hP 0 0 rfl rfl vi_1_8 dL_drives_25 ?_
      refine lv_icmp_ge (tgt := 79) hx hb dL_drives_26 (by decide) (fun c26 => ?_) (fun c26 => ?_)
      · replace hR := it_t hR c26
        exact hB79 S3_21h S4_21h S5_21h S6_21h v8_21 v9_21 H _ ls hR hP hD hS (lv_sub hl [0, 1, 2, 3, 4, 5, 6, 7, 8, 9] rfl)
      · replace hR := it_f hR c26
        refine lv_iload hx hb dL_drives_29 (lv_at hl 7 rfl) ?_
        refine lv_iconst (v := 3) hx hb dL_drives_31 ic_3 ?_
        refine lv_irem hx hb dL_drives_32 (by decide) ?_
        refine lv_if_le (tgt := 79) hx hb dL_drives_33 (by decide) (fun c33 => ?_) (fun c33 => ?_)
        · replace hR := it_t hR c33
          exact hB79 S3_21h S4_21h S5_21h S6_21h v8_21 v9_21 H _ ls hR hP hD hS (lv_sub hl [0, 1, 2, 3, 4, 5, 6, 7, 8, 9] rfl)
        · replace hR := it_f hR c33
          refine lv_iload hx hb dL_drives_36 (lv_at hl 6 rfl) ?_
          refine lv_if_le (tgt := 69) hx hb dL_drives_38 (by decide) (fun c38 => ?_) (fun c38 => ?_)
          · replace hR := it_t hR c38
            exact hB69 S3_21h S4_21h S5_21h S6_21h v8_21 v9_21 v10_21 H _ ls hR hP hD hS (lv_sub hl [0, 1, 2, 3, 4, 5, 6, 7, 8, 9, 10] rfl)
          · replace hR := it_f hR c38
            refine lv_aload_n hx hb dL_drives_41 rfl (lv_at hl 3 rfl) ?_
            refine lv_iconst (v := 3) hx hb dL_drives_42 ic_3 ?_
            refine lv_iload hx hb dL_drives_43 (lv_at hl 10 rfl) ?_
            refine lv_imul hx hb dL_drives_45 ?_
            replace hR := gi_e hR
            obtain ⟨i46, hR⟩ := hR
            refine va_iald hx hb hK hP 2 0 rfl rfl i46 dL_drives_46 ?_
            refine lv_iconst (v := 2) hx hb dL_drives_47 ic_2 ?_
            refine lv_icmp_ne (tgt := 69) hx hb dL_drives_48 (by decide) (fun c48 => ?_) (fun c48 => ?_)
            · replace hR := it_f hR c48
              exact hB69 S3_21h S4_21h S5_21h S6_21h v8_21 v9_21 v10_21 H _ ls hR hP hD hS (lv_sub hl [0, 1, 2, 3, 4, 5, 6, 7, 8, 9, 10] rfl)
            · replace hR := it_t hR c48
              refine lv_aload_n hx hb dL_drives_51 rfl (lv_at hl 3 rfl) ?_
              refine lv_iconst (v := 3) hx hb dL_drives_52 ic_3 ?_
              refine lv_iload hx hb dL_drives_53 (lv_at hl 10 rfl) ?_
              refine lv_imul hx hb dL_drives_55 ?_
              refine lv_iconst (v := 1) hx hb dL_drives_56 ic_1 ?_
              refine lv_iadd hx hb dL_drives_57 ?_
              replace hR := gi_e hR
              obtain ⟨i58, hR⟩ := hR
              refine va_iald hx hb hK hP 2 0 rfl rfl i58 dL_drives_58 ?_
              refine lv_iload hx hb dL_drives_59 (lv_at hl 8 rfl) ?_
              refine lv_icmp_ne (tgt := 69) hx hb dL_drives_61 (by decide) (fun c61 => ?_) (fun c61 => ?_)
              · replace hR := it_f hR c61
                exact hB69 S3_21h S4_21h S5_21h S6_21h v8_21 v9_21 v10_21 H _ ls hR hP hD hS (lv_sub hl [0, 1, 2, 3, 4, 5, 6, 7, 8, 9, 10] rfl)
              · replace hR := it_t hR c61
                refine lv_iload hx hb dL_drives_64 (lv_at hl 10 rfl) ?_
                refine lv_goto (tgt := 71) hx hb dL_drives_66 (by decide) ?_
                exact hB71 S3_21h S4_21h S5_21h S6_21h v8_21 v10_21 v10_21 H _ ls hR hP hD hS (lv_sub hl [0, 1, 2, 3, 4, 5, 6, 7, 8, 10] rfl)
  refine lv_iload hx hb dL_drives_0 (lv_at hl 7 rfl) ?_
  refine lv_aload_n hx hb dL_drives_2 rfl (lv_at hl 1 rfl) ?_
  refine lv_iconst (v := 3) hx hb dL_drives_3 ic_3 ?_
  refine va_iald hx hb hK hP 0 0 rfl rfl vi_3_8 dL_drives_4 ?_
  replace hR := nz_e hR
  obtain ⟨z5, hR⟩ := hR
  refine lv_irem hx hb dL_drives_5 z5 ?_
  replace hR := bn_e hR
  obtain ⟨x6, ex6, hR⟩ := hR
  refine tp_g ex6 ?_
  refine lv_istore (lv' := [(8, .int x6), (0, .ref (ad 0)), (1, .ref b1), (2, .ref b2), (3, .ref b3), (4, .ref b4), (5, .ref b5), (6, .int p6), (7, .int p7)]) hx hb dL_drives_6 hl (Nat.le_of_ble_eq_true rfl) rfl (fun ls hl => ?_)
  refine lv_iload hx hb dL_drives_8 (lv_at hl 8 rfl) ?_
  refine lv_iconst (v := 2) hx hb dL_drives_10 ic_2 ?_
  refine lv_idiv hx hb dL_drives_11 (by decide) ?_
  refine lv_aload_n hx hb dL_drives_12 rfl (lv_at hl 2 rfl) ?_
  refine lv_iconst (v := 1) hx hb dL_drives_13 ic_1 ?_
  refine va_iald hx hb hK hP 0 0 rfl rfl vi_1_8 dL_drives_14 ?_
  replace hR := nz_e hR
  obtain ⟨z15, hR⟩ := hR
  refine lv_irem hx hb dL_drives_15 z15 ?_
  replace hR := bn_e hR
  obtain ⟨x16, ex16, hR⟩ := hR
  refine tp_g ex16 ?_
  refine lv_istore (lv' := [(9, .int x16), (8, .int x6), (0, .ref (ad 0)), (1, .ref b1), (2, .ref b2), (3, .ref b3), (4, .ref b4), (5, .ref b5), (6, .int p6), (7, .int p7)]) hx hb dL_drives_16 hl (Nat.le_of_ble_eq_true rfl) rfl (fun ls hl => ?_)
  refine lv_iconst (v := 0) hx hb dL_drives_18 ic_0 ?_
  refine lv_istore (lv' := [(10, .int (0 : Int32)), (9, .int x16), (8, .int x6), (0, .ref (ad 0)), (1, .ref b1), (2, .ref b2), (3, .ref b3), (4, .ref b4), (5, .ref b5), (6, .int p6), (7, .int p7)]) hx hb dL_drives_19 hl (Nat.le_of_ble_eq_true rfl) rfl (fun ls hl => ?_)
  exact hB21 fuel S3 S4 S5 S6 x6 x16 (0 : Int32) s.heap _ ls hR hP hD hS (lv_sub hl [3, 4, 5, 6, 7, 8, 9, 10, 2, 1, 0] rfl)
