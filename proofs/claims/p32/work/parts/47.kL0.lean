set_option maxHeartbeats 8000000 in
set_option maxRecDepth 100000 in
theorem k_L_low (l : Launch) (dC : Nat → ClassId) (dI : Nat → Nat → Nat) (cs : Nat → ClassId) (ad : Nat → Nat) (sz : Nat) (p0 : Int32) (p1 : Int32) (r : Int32) (hR : fL_low p0 p1 = some r) : Met l yL_low wsL_low ({ frames := 0, cells := 0, slots := 0, locals := 0 } : Room) (va_Pc [.int p0, .int p1] (pW dC dI (tyL cs) (fl []) sz)) (QI dC dI (tyL cs) (va_A (fl []) sz) (fl []) r) 0 0 (va_A (fl []) sz) := by
  refine mt_ofC (own := RL) (cc := cL_low) (maxL := 2) (ret := (some .int)) (Qc := fun A => QI dC dI (tyL cs) A (fl []) r) rfl (by decide) rfl (Nat.le_of_ble_eq_true rfl) (fun p e s m below meth c A ls hsz hx hb hr hts hown hlocks hml hA hK hP hD hS hl => ?_)
  subst hsz
  have hl : lv_has ls 2 [(0, .int p0), (1, .int p1)] := hl
  refine lv_iload_n hx hb dL_low_0 rfl (lv_at hl 0 rfl) ?_
  refine lv_ldc (v := 2147483647) hx hb hown (hts (.constant RL 8 (2147483647)) (List.mem_of_getElem? (i := 1) rfl)) dL_low_1 ?_
  refine lv_iand hx hb dL_low_3 ?_
  refine lv_iload_n hx hb dL_low_4 rfl (lv_at hl 1 rfl) ?_
  replace hR := nz_e hR
  obtain ⟨z5, hR⟩ := hR
  refine lv_irem hx hb dL_low_5 z5 ?_
  replace hR := Option.some.inj hR
  have e9 := hR
  exact W.iret hx hb hr (fun t ht hW => ⟨⟨_, (), rfl, e9, by rw [ht]; exact hP, va_K.moved hW.alike hK, hD⟩, hS.F ht⟩) hS.2.2 dL_low_6
set_option maxHeartbeats 8000000 in
set_option maxRecDepth 100000 in
theorem k_L_docked (l : Launch) (dC : Nat → ClassId) (dI : Nat → Nat → Nat) (cs : Nat → ClassId) (ad : Nat → Nat) (b1 b2 : Nat) (sz : Nat) (S1 : T1) (S2 : T1) (p2 : Int32) (r : Int32) (hR : fL_docked S1 S2 p2 = some r) : Met l yL_docked wsL_docked ({ frames := 0, cells := 0, slots := 0, locals := 0 } : Room) (va_Pc [.ref b1, .ref b2, .int p2] (pW dC dI (tyL cs) (fl [[(b1, .inl (cs 0, 8, .inl S1))], [(b2, .inl (cs 0, 48, .inl S2))]]) sz)) (QI dC dI (tyL cs) (va_A (fl [[(b1, .inl (cs 0, 8, .inl S1))], [(b2, .inl (cs 0, 48, .inl S2))]]) sz) (fl [[(b1, .inl (cs 0, 8, .inl S1))], [(b2, .inl (cs 0, 48, .inl S2))]]) r) 0 0 (va_A (fl [[(b1, .inl (cs 0, 8, .inl S1))], [(b2, .inl (cs 0, 48, .inl S2))]]) sz) := by
  refine mt_ofC (own := RL) (cc := cL_docked) (maxL := 5) (ret := (some .int)) (Qc := fun A => QI dC dI (tyL cs) A (fl [[(b1, .inl (cs 0, 8, .inl S1))], [(b2, .inl (cs 0, 48, .inl S2))]]) r) rfl (by decide) rfl (Nat.le_of_ble_eq_true rfl) (fun p e s m below meth c A ls hsz hx hb hr hts hown hlocks hml hA hK hP hD hS hl => ?_)
  subst hsz
  have hl : lv_has ls 5 [(0, .ref b1), (1, .ref b2), (2, .int p2)] := hl
  have hB5 : ∀ (n5 : Nat), ∀ (v3_5 : Int32) (v4_5 : Int32) (H : Heap) (locs : List Loc) (ls : Array Slot), fL_docked_5 S1 S2 p2 n5 v3_5 v4_5 = some r → va_P (dC, dI) vwCl (fl [[(b1, .inl (cs 0, 8, .inl S1))], [(b2, .inl (cs 0, 48, .inl S2))]]) H → va_D A (fl [[(b1, .inl (cs 0, 8, .inl S1))], [(b2, .inl (cs 0, 48, .inl S2))]]) → va_S A s.heap H locs → lv_has ls 5 [(0, .ref b1), (1, .ref b2), (2, .int p2), (3, .int v3_5), (4, .int v4_5)] → W p l e (headSpec wsL_docked ({ frames := 0, cells := 0, slots := 0, locals := 0 } : Room)).room s m ([.ref b1, .ref b2, .int p2] : List Value).toArray below meth c H locs 0 0 (MQ below (QI dC dI (tyL cs) A (fl [[(b1, .inl (cs 0, 8, .inl S1))], [(b2, .inl (cs 0, 48, .inl S2))]]) r) ([.ref b1, .ref b2, .int p2] : List Value).toArray s 0 0 A) (F0 m 5 ls []) := by
    intro n5
    induction n5 with
    | zero =>
      intro v3_5 v4_5 H locs ls hR hP hD hS hl
      exact nn_e hR
    | succ n5 hI5 =>
      have hB40 : ∀ (v4_40 : Int32) (t0_40 : Int32) (t1_40 : Int32) (H : Heap) (locs : List Loc) (ls : Array Slot), fL_docked_40 (fL_docked_5 S1 S2 p2 n5) S1 S2 p2 v4_40 t0_40 t1_40 = some r → va_P (dC, dI) vwCl (fl [[(b1, .inl (cs 0, 8, .inl S1))], [(b2, .inl (cs 0, 48, .inl S2))]]) H → va_D A (fl [[(b1, .inl (cs 0, 8, .inl S1))], [(b2, .inl (cs 0, 48, .inl S2))]]) → va_S A s.heap H locs → lv_has ls 5 [(0, .ref b1), (1, .ref b2), (2, .int p2), (4, .int v4_40)] → W p l e (headSpec wsL_docked ({ frames := 0, cells := 0, slots := 0, locals := 0 } : Room)).room s m ([.ref b1, .ref b2, .int p2] : List Value).toArray below meth c H locs 0 0 (MQ below (QI dC dI (tyL cs) A (fl [[(b1, .inl (cs 0, 8, .inl S1))], [(b2, .inl (cs 0, 48, .inl S2))]]) r) ([.ref b1, .ref b2, .int p2] : List Value).toArray s 0 0 A) (F0 m 40 ls [.int t1_40, .int t0_40]) := by
        intro v4_40 t0_40 t1_40 H locs ls hR hP hD hS hl
        refine lv_iadd hx hb dL_docked_40 ?_
        refine lv_istore_n (lv' := [(3, .int (t0_40 + t1_40)), (0, .ref b1), (1, .ref b2), (2, .int p2), (4, .int v4_40)]) hx hb dL_docked_41 rfl hl (Nat.le_of_ble_eq_true rfl) rfl (fun ls hl => ?_)
        refine lv_iinc (v := (v4_40 + 1)) (lv' := [(4, .int (v4_40 + 1)), (3, .int (t0_40 + t1_40)), (0, .ref b1), (1, .ref b2), (2, .int p2)]) hx hb dL_docked_42 hl (k := 4) rfl rfl (Nat.le_of_ble_eq_true rfl) rfl (fun ls hl => ?_)
        refine lv_goto (tgt := 5) hx hb dL_docked_45 (by decide) ?_
        exact hI5 (t0_40 + t1_40) (v4_40 + 1) H _ ls hR hP hD hS (lv_sub hl [2, 3, 4, 1, 0] rfl)
      have hB39 : ∀ (v4_39 : Int32) (t0_39 : Int32) (H : Heap) (locs : List Loc) (ls : Array Slot), fL_docked_39 (fL_docked_5 S1 S2 p2 n5) S1 S2 p2 v4_39 t0_39 = some r → va_P (dC, dI) vwCl (fl [[(b1, .inl (cs 0, 8, .inl S1))], [(b2, .inl (cs 0, 48, .inl S2))]]) H → va_D A (fl [[(b1, .inl (cs 0, 8, .inl S1))], [(b2, .inl (cs 0, 48, .inl S2))]]) → va_S A s.heap H locs → lv_has ls 5 [(0, .ref b1), (1, .ref b2), (2, .int p2), (4, .int v4_39)] → W p l e (headSpec wsL_docked ({ frames := 0, cells := 0, slots := 0, locals := 0 } : Room)).room s m ([.ref b1, .ref b2, .int p2] : List Value).toArray below meth c H locs 0 0 (MQ below (QI dC dI (tyL cs) A (fl [[(b1, .inl (cs 0, 8, .inl S1))], [(b2, .inl (cs 0, 48, .inl S2))]]) r) ([.ref b1, .ref b2, .int p2] : List Value).toArray s 0 0 A) (F0 m 39 ls [.int t0_39]) := by
        intro v4_39 t0_39 H locs ls hR hP hD hS hl
        refine lv_iconst (v := 0) hx hb dL_docked_39 ic_0 ?_
        exact hB40 v4_39 t0_39 (0 : Int32) H _ ls hR hP hD hS (lv_sub hl [0, 1, 2, 3] rfl)
      intro v3_5 v4_5 H locs ls hR hP hD hS hl
      rw [fL_docked_5] at hR
      refine lv_iload hx hb dL_docked_5 (lv_at hl 4 rfl) ?_
      refine lv_aload_n hx hb dL_docked_7 rfl (lv_at hl 0 rfl) ?_
      refine lv_iconst (v := 1) hx hb dL_docked_8 ic_1 ?_
      refine va_iald hx hb hK hP 0 0 rfl rfl vi_1_8 dL_docked_9 ?_
      refine lv_icmp_ge (tgt := 48) hx hb dL_docked_10 (by decide) (fun c10 => ?_) (fun c10 => ?_)
      · replace hR := it_t hR c10
        refine lv_iload_n hx hb dL_docked_48 rfl (lv_at hl 3 rfl) ?_
        replace hR := Option.some.inj hR
        have e9 := hR
        exact W.iret hx hb hr (fun t ht hW => ⟨⟨_, (), rfl, e9, by rw [ht]; exact hP, va_K.moved hW.alike hK, hD⟩, hS.F ht⟩) hS.2.2 dL_docked_49
      · replace hR := it_f hR c10
        refine lv_iload_n hx hb dL_docked_13 rfl (lv_at hl 3 rfl) ?_
        refine lv_aload_n hx hb dL_docked_14 rfl (lv_at hl 1 rfl) ?_
        refine lv_iconst (v := 3) hx hb dL_docked_15 ic_3 ?_
        refine lv_iload hx hb dL_docked_16 (lv_at hl 4 rfl) ?_
        refine lv_imul hx hb dL_docked_18 ?_
        replace hR := gi_e hR
        obtain ⟨i19, hR⟩ := hR
        refine va_iald hx hb hK hP 1 0 rfl rfl i19 dL_docked_19 ?_
        refine lv_if_ne (tgt := 39) hx hb dL_docked_20 (by decide) (fun c20 => ?_) (fun c20 => ?_)
        · replace hR := it_f hR c20
          exact hB39 v4_5 v3_5 H _ ls hR hP hD hS (lv_sub hl [0, 1, 2, 4] rfl)
        · replace hR := it_t hR c20
          refine lv_aload_n hx hb dL_docked_23 rfl (lv_at hl 1 rfl) ?_
          refine lv_iconst (v := 3) hx hb dL_docked_24 ic_3 ?_
          refine lv_iload hx hb dL_docked_25 (lv_at hl 4 rfl) ?_
          refine lv_imul hx hb dL_docked_27 ?_
          refine lv_iconst (v := 1) hx hb dL_docked_28 ic_1 ?_
          refine lv_iadd hx hb dL_docked_29 ?_
          replace hR := gi_e hR
          obtain ⟨i30, hR⟩ := hR
          refine va_iald hx hb hK hP 1 0 rfl rfl i30 dL_docked_30 ?_
          refine lv_iload_n hx hb dL_docked_31 rfl (lv_at hl 2 rfl) ?_
          refine lv_icmp_ne (tgt := 39) hx hb dL_docked_32 (by decide) (fun c32 => ?_) (fun c32 => ?_)
          · replace hR := it_f hR c32
            exact hB39 v4_5 v3_5 H _ ls hR hP hD hS (lv_sub hl [0, 1, 2, 4] rfl)
          · replace hR := it_t hR c32
            refine lv_iconst (v := 1) hx hb dL_docked_35 ic_1 ?_
            refine lv_goto (tgt := 40) hx hb dL_docked_36 (by decide) ?_
            exact hB40 v4_5 v3_5 (1 : Int32) H _ ls hR hP hD hS (lv_sub hl [0, 1, 2, 4] rfl)
  refine lv_iconst (v := 0) hx hb dL_docked_0 ic_0 ?_
  refine lv_istore_n (lv' := [(3, .int (0 : Int32)), (0, .ref b1), (1, .ref b2), (2, .int p2)]) hx hb dL_docked_1 rfl hl (Nat.le_of_ble_eq_true rfl) rfl (fun ls hl => ?_)
  refine lv_iconst (v := 0) hx hb dL_docked_2 ic_0 ?_
  refine lv_istore (lv' := [(4, .int (0 : Int32)), (3, .int (0 : Int32)), (0, .ref b1), (1, .ref b2), (2, .int p2)]) hx hb dL_docked_3 hl (Nat.le_of_ble_eq_true rfl) rfl (fun ls hl => ?_)
  exact hB5 fuel (0 : Int32) (0 : Int32) s.heap _ ls hR hP hD hS (lv_sub hl [2, 3, 4, 1, 0] rfl)
set_option maxHeartbeats 8000000 in
set_option maxRecDepth 100000 in
theorem k_L_free (l : Launch) (dC : Nat → ClassId) (dI : Nat → Nat → Nat) (cs : Nat → ClassId) (ad : Nat → Nat) (b1 b2 b3 : Nat) (sz : Nat) (S1 : T1) (S2 : T1) (S3 : T1) (p3 : Int32) (r : Int32) (hR : fL_free S1 S2 S3 p3 = some r) : Met l yL_free wsL_free ({ frames := 1, cells := 0, slots := 0, locals := 24 } : Room) (va_Pc [.ref b1, .ref b2, .ref b3, .int p3] (pW dC dI (tyL cs) (fl [[(b1, .inl (cs 0, 8, .inl S1))], [(b2, .inl (cs 0, 24, .inl S2))], [(b3, .inl (cs 0, 48, .inl S3))]]) sz)) (QI dC dI (tyL cs) (va_A (fl [[(b1, .inl (cs 0, 8, .inl S1))], [(b2, .inl (cs 0, 24, .inl S2))], [(b3, .inl (cs 0, 48, .inl S3))]]) sz) (fl [[(b1, .inl (cs 0, 8, .inl S1))], [(b2, .inl (cs 0, 24, .inl S2))], [(b3, .inl (cs 0, 48, .inl S3))]]) r) 0 0 (va_A (fl [[(b1, .inl (cs 0, 8, .inl S1))], [(b2, .inl (cs 0, 24, .inl S2))], [(b3, .inl (cs 0, 48, .inl S3))]]) sz) := by
  refine mt_ofC (own := RL) (cc := cL_free) (maxL := 4) (ret := (some .boolean)) (Qc := fun A => QI dC dI (tyL cs) A (fl [[(b1, .inl (cs 0, 8, .inl S1))], [(b2, .inl (cs 0, 24, .inl S2))], [(b3, .inl (cs 0, 48, .inl S3))]]) r) rfl (by decide) rfl (Nat.le_of_ble_eq_true rfl) (fun p e s m below meth c A ls hsz hx hb hr hts hown hlocks hml hA hK hP hD hS hl => ?_)
  subst hsz
  have hl : lv_has ls 4 [(0, .ref b1), (1, .ref b2), (2, .ref b3), (3, .int p3)] := hl
  refine lv_aload_n hx hb dL_free_0 rfl (lv_at hl 0 rfl) ?_
  refine lv_aload_n hx hb dL_free_1 rfl (lv_at hl 2 rfl) ?_
  refine lv_iload_n hx hb dL_free_2 rfl (lv_at hl 3 rfl) ?_
  replace hR := bd_e hR
  obtain ⟨q3, gq3, hR⟩ := hR
  refine cm_Si (As := [.ref b1, .ref b3, .int p3]) (rest := []) (L := [[(b1, .inl (cs 0, 8, .inl S1))], [(b2, .inl (cs 0, 24, .inl S2))], [(b3, .inl (cs 0, 48, .inl S3))]]) (L' := [[(b1, .inl (cs 0, 8, .inl S1))], [(b2, .inl (cs 0, 24, .inl S2))], [(b3, .inl (cs 0, 48, .inl S3))]]) (Wc := [[(b1, .inl (cs 0, 8, .inl S1))], [(b3, .inl (cs 0, 48, .inl S3))]]) (Wc' := [[(b1, .inl (cs 0, 8, .inl S1))], [(b3, .inl (cs 0, 48, .inl S3))]]) (is := [0, 2]) (js := [1]) ⟨hx, hb, hml, hown, hts⟩ (k_L_docked l dC dI cs ad (b1) (b3) s.heap.size S1 S3 p3 q3 gq3) (va_cwS 3 hts gL_free_L_docked rfl rfl rfl cd_L_docked.2 ⟨Nat.le_of_ble_eq_true rfl, Nat.le_of_ble_eq_true rfl⟩) hK hP hD hS hA ⟨rfl, rfl, rfl, rfl, rfl, rfl⟩ (jn_nd (is := [0, 2]) hD rfl rfl) rfl rfl hl.1 (Nat.le_of_ble_eq_true rfl) dL_free_3 ⟨Nat.le_of_ble_eq_true rfl, Nat.le_of_ble_eq_true rfl⟩ (fun H3 locs3 hP' hD' hS' => ?_)
  replace hS := hS'
  replace hP : va_P (dC, dI) vwCl (fl [[(b1, .inl (cs 0, 8, .inl S1))], [(b2, .inl (cs 0, 24, .inl S2))], [(b3, .inl (cs 0, 48, .inl S3))]]) H3 := hP'
  replace hD : va_D A (fl [[(b1, .inl (cs 0, 8, .inl S1))], [(b2, .inl (cs 0, 24, .inl S2))], [(b3, .inl (cs 0, 48, .inl S3))]]) := hD'
  clear hP' hD' hS'
  refine lv_aload_n hx hb dL_free_6 rfl (lv_at hl 1 rfl) ?_
  refine lv_iconst (v := 4) hx hb dL_free_7 ic_4 ?_
  refine lv_iload_n hx hb dL_free_8 rfl (lv_at hl 3 rfl) ?_
  refine lv_imul hx hb dL_free_9 ?_
  refine lv_iconst (v := 1) hx hb dL_free_10 ic_1 ?_
  refine lv_iadd hx hb dL_free_11 ?_
  replace hR := gi_e hR
  obtain ⟨i12, hR⟩ := hR
  refine va_iald hx hb hK hP 1 0 rfl rfl i12 dL_free_12 ?_
  refine lv_icmp_ge (tgt := 20) hx hb dL_free_13 (by decide) (fun c13 => ?_) (fun c13 => ?_)
  · replace hR := it_t hR c13
    refine lv_iconst (v := 0) hx hb dL_free_20 ic_0 ?_
    replace hR := Option.some.inj hR
    have e9 := hR
    exact W.zret (ty := .boolean) hx hb hr (by decide) (fun t ht hW => ⟨⟨_, (), rfl, e9, by rw [ht]; exact hP, va_K.moved hW.alike hK, hD⟩, hS.F ht⟩) hS.2.2 dL_free_21
  · replace hR := it_f hR c13
    refine lv_iconst (v := 1) hx hb dL_free_16 ic_1 ?_
    refine lv_goto (tgt := 21) hx hb dL_free_17 (by decide) ?_
    replace hR := Option.some.inj hR
    have e9 := hR
    exact W.zret (ty := .boolean) hx hb hr (by decide) (fun t ht hW => ⟨⟨_, (), rfl, e9, by rw [ht]; exact hP, va_K.moved hW.alike hK, hD⟩, hS.F ht⟩) hS.2.2 dL_free_21
set_option maxHeartbeats 8000000 in
set_option maxRecDepth 100000 in
theorem k_L_carried (l : Launch) (dC : Nat → ClassId) (dI : Nat → Nat → Nat) (cs : Nat → ClassId) (ad : Nat → Nat) (b1 b2 : Nat) (sz : Nat) (S1 : T1) (S2 : T1) (p2 : Int32) (r : Int32) (hR : fL_carried S1 S2 p2 = some r) : Met l yL_carried wsL_carried ({ frames := 0, cells := 0, slots := 0, locals := 0 } : Room) (va_Pc [.ref b1, .ref b2, .int p2] (pW dC dI (tyL cs) (fl [[(b1, .inl (cs 0, 8, .inl S1))], [(b2, .inl (cs 0, 48, .inl S2))]]) sz)) (QI dC dI (tyL cs) (va_A (fl [[(b1, .inl (cs 0, 8, .inl S1))], [(b2, .inl (cs 0, 48, .inl S2))]]) sz) (fl [[(b1, .inl (cs 0, 8, .inl S1))], [(b2, .inl (cs 0, 48, .inl S2))]]) r) 0 0 (va_A (fl [[(b1, .inl (cs 0, 8, .inl S1))], [(b2, .inl (cs 0, 48, .inl S2))]]) sz) := by
  refine mt_ofC (own := RL) (cc := cL_carried) (maxL := 5) (ret := (some .int)) (Qc := fun A => QI dC dI (tyL cs) A (fl [[(b1, .inl (cs 0, 8, .inl S1))], [(b2, .inl (cs 0, 48, .inl S2))]]) r) rfl (by decide) rfl (Nat.le_of_ble_eq_true rfl) (fun p e s m below meth c A ls hsz hx hb hr hts hown hlocks hml hA hK hP hD hS hl => ?_)
  subst hsz
  have hl : lv_has ls 5 [(0, .ref b1), (1, .ref b2), (2, .int p2)] := hl
  have hB5 : ∀ (n5 : Nat), ∀ (v3_5 : Int32) (v4_5 : Int32) (H : Heap) (locs : List Loc) (ls : Array Slot), fL_carried_5 S1 S2 p2 n5 v3_5 v4_5 = some r → va_P (dC, dI) vwCl (fl [[(b1, .inl (cs 0, 8, .inl S1))], [(b2, .inl (cs 0, 48, .inl S2))]]) H → va_D A (fl [[(b1, .inl (cs 0, 8, .inl S1))], [(b2, .inl (cs 0, 48, .inl S2))]]) → va_S A s.heap H locs → lv_has ls 5 [(0, .ref b1), (1, .ref b2), (2, .int p2), (3, .int v3_5), (4, .int v4_5)] → W p l e (headSpec wsL_carried ({ frames := 0, cells := 0, slots := 0, locals := 0 } : Room)).room s m ([.ref b1, .ref b2, .int p2] : List Value).toArray below meth c H locs 0 0 (MQ below (QI dC dI (tyL cs) A (fl [[(b1, .inl (cs 0, 8, .inl S1))], [(b2, .inl (cs 0, 48, .inl S2))]]) r) ([.ref b1, .ref b2, .int p2] : List Value).toArray s 0 0 A) (F0 m 5 ls []) := by
    intro n5
    induction n5 with
    | zero =>
      intro v3_5 v4_5 H locs ls hR hP hD hS hl
      exact nn_e hR
    | succ n5 hI5 =>
      have hB41 : ∀ (v4_41 : Int32) (t0_41 : Int32) (t1_41 : Int32) (H : Heap) (locs : List Loc) (ls : Array Slot), fL_carried_41 (fL_carried_5 S1 S2 p2 n5) S1 S2 p2 v4_41 t0_41 t1_41 = some r → va_P (dC, dI) vwCl (fl [[(b1, .inl (cs 0, 8, .inl S1))], [(b2, .inl (cs 0, 48, .inl S2))]]) H → va_D A (fl [[(b1, .inl (cs 0, 8, .inl S1))], [(b2, .inl (cs 0, 48, .inl S2))]]) → va_S A s.heap H locs → lv_has ls 5 [(0, .ref b1), (1, .ref b2), (2, .int p2), (4, .int v4_41)] → W p l e (headSpec wsL_carried ({ frames := 0, cells := 0, slots := 0, locals := 0 } : Room)).room s m ([.ref b1, .ref b2, .int p2] : List Value).toArray below meth c H locs 0 0 (MQ below (QI dC dI (tyL cs) A (fl [[(b1, .inl (cs 0, 8, .inl S1))], [(b2, .inl (cs 0, 48, .inl S2))]]) r) ([.ref b1, .ref b2, .int p2] : List Value).toArray s 0 0 A) (F0 m 41 ls [.int t1_41, .int t0_41]) := by
        intro v4_41 t0_41 t1_41 H locs ls hR hP hD hS hl
        refine lv_iadd hx hb dL_carried_41 ?_
        refine lv_istore_n (lv' := [(3, .int (t0_41 + t1_41)), (0, .ref b1), (1, .ref b2), (2, .int p2), (4, .int v4_41)]) hx hb dL_carried_42 rfl hl (Nat.le_of_ble_eq_true rfl) rfl (fun ls hl => ?_)
        refine lv_iinc (v := (v4_41 + 1)) (lv' := [(4, .int (v4_41 + 1)), (3, .int (t0_41 + t1_41)), (0, .ref b1), (1, .ref b2), (2, .int p2)]) hx hb dL_carried_43 hl (k := 4) rfl rfl (Nat.le_of_ble_eq_true rfl) rfl (fun ls hl => ?_)
        refine lv_goto (tgt := 5) hx hb dL_carried_46 (by decide) ?_
        exact hI5 (t0_41 + t1_41) (v4_41 + 1) H _ ls hR hP hD hS (lv_sub hl [2, 3, 4, 1, 0] rfl)
      have hB40 : ∀ (v4_40 : Int32) (t0_40 : Int32) (H : Heap) (locs : List Loc) (ls : Array Slot), fL_carried_40 (fL_carried_5 S1 S2 p2 n5) S1 S2 p2 v4_40 t0_40 = some r → va_P (dC, dI) vwCl (fl [[(b1, .inl (cs 0, 8, .inl S1))], [(b2, .inl (cs 0, 48, .inl S2))]]) H → va_D A (fl [[(b1, .inl (cs 0, 8, .inl S1))], [(b2, .inl (cs 0, 48, .inl S2))]]) → va_S A s.heap H locs → lv_has ls 5 [(0, .ref b1), (1, .ref b2), (2, .int p2), (4, .int v4_40)] → W p l e (headSpec wsL_carried ({ frames := 0, cells := 0, slots := 0, locals := 0 } : Room)).room s m ([.ref b1, .ref b2, .int p2] : List Value).toArray below meth c H locs 0 0 (MQ below (QI dC dI (tyL cs) A (fl [[(b1, .inl (cs 0, 8, .inl S1))], [(b2, .inl (cs 0, 48, .inl S2))]]) r) ([.ref b1, .ref b2, .int p2] : List Value).toArray s 0 0 A) (F0 m 40 ls [.int t0_40]) := by
        intro v4_40 t0_40 H locs ls hR hP hD hS hl
        refine lv_iconst (v := 0) hx hb dL_carried_40 ic_0 ?_
        exact hB41 v4_40 t0_40 (0 : Int32) H _ ls hR hP hD hS (lv_sub hl [0, 1, 2, 3] rfl)
      intro v3_5 v4_5 H locs ls hR hP hD hS hl
      rw [fL_carried_5] at hR
      refine lv_iload hx hb dL_carried_5 (lv_at hl 4 rfl) ?_
      refine lv_aload_n hx hb dL_carried_7 rfl (lv_at hl 0 rfl) ?_
      refine lv_iconst (v := 1) hx hb dL_carried_8 ic_1 ?_
      refine va_iald hx hb hK hP 0 0 rfl rfl vi_1_8 dL_carried_9 ?_
      refine lv_icmp_ge (tgt := 49) hx hb dL_carried_10 (by decide) (fun c10 => ?_) (fun c10 => ?_)
      · replace hR := it_t hR c10
        refine lv_iload_n hx hb dL_carried_49 rfl (lv_at hl 3 rfl) ?_
        replace hR := Option.some.inj hR
        have e9 := hR
        exact W.iret hx hb hr (fun t ht hW => ⟨⟨_, (), rfl, e9, by rw [ht]; exact hP, va_K.moved hW.alike hK, hD⟩, hS.F ht⟩) hS.2.2 dL_carried_50
      · replace hR := it_f hR c10
        refine lv_iload_n hx hb dL_carried_13 rfl (lv_at hl 3 rfl) ?_
        refine lv_aload_n hx hb dL_carried_14 rfl (lv_at hl 1 rfl) ?_
        refine lv_iconst (v := 3) hx hb dL_carried_15 ic_3 ?_
        refine lv_iload hx hb dL_carried_16 (lv_at hl 4 rfl) ?_
        refine lv_imul hx hb dL_carried_18 ?_
        replace hR := gi_e hR
        obtain ⟨i19, hR⟩ := hR
        refine va_iald hx hb hK hP 1 0 rfl rfl i19 dL_carried_19 ?_
        refine lv_iconst (v := 2) hx hb dL_carried_20 ic_2 ?_
        refine lv_icmp_ne (tgt := 40) hx hb dL_carried_21 (by decide) (fun c21 => ?_) (fun c21 => ?_)
        · replace hR := it_f hR c21
          exact hB40 v4_5 v3_5 H _ ls hR hP hD hS (lv_sub hl [0, 1, 2, 4] rfl)
        · replace hR := it_t hR c21
          refine lv_aload_n hx hb dL_carried_24 rfl (lv_at hl 1 rfl) ?_
          refine lv_iconst (v := 3) hx hb dL_carried_25 ic_3 ?_
          refine lv_iload hx hb dL_carried_26 (lv_at hl 4 rfl) ?_
          refine lv_imul hx hb dL_carried_28 ?_
          refine lv_iconst (v := 1) hx hb dL_carried_29 ic_1 ?_
          refine lv_iadd hx hb dL_carried_30 ?_
          replace hR := gi_e hR
          obtain ⟨i31, hR⟩ := hR
          refine va_iald hx hb hK hP 1 0 rfl rfl i31 dL_carried_31 ?_
          refine lv_iload_n hx hb dL_carried_32 rfl (lv_at hl 2 rfl) ?_
          refine lv_icmp_ne (tgt := 40) hx hb dL_carried_33 (by decide) (fun c33 => ?_) (fun c33 => ?_)
          · replace hR := it_f hR c33
            exact hB40 v4_5 v3_5 H _ ls hR hP hD hS (lv_sub hl [0, 1, 2, 4] rfl)
          · replace hR := it_t hR c33
            refine lv_iconst (v := 1) hx hb dL_carried_36 ic_1 ?_
            refine lv_goto (tgt := 41) hx hb dL_carried_37 (by decide) ?_
            exact hB41 v4_5 v3_5 (1 : Int32) H _ ls hR hP hD hS (lv_sub hl [0, 1, 2, 4] rfl)
  refine lv_iconst (v := 0) hx hb dL_carried_0 ic_0 ?_
  refine lv_istore_n (lv' := [(3, .int (0 : Int32)), (0, .ref b1), (1, .ref b2), (2, .int p2)]) hx hb dL_carried_1 rfl hl (Nat.le_of_ble_eq_true rfl) rfl (fun ls hl => ?_)
  refine lv_iconst (v := 0) hx hb dL_carried_2 ic_0 ?_
  refine lv_istore (lv' := [(4, .int (0 : Int32)), (3, .int (0 : Int32)), (0, .ref b1), (1, .ref b2), (2, .int p2)]) hx hb dL_carried_3 hl (Nat.le_of_ble_eq_true rfl) rfl (fun ls hl => ?_)
  exact hB5 fuel (0 : Int32) (0 : Int32) s.heap _ ls hR hP hD hS (lv_sub hl [2, 3, 4, 1, 0] rfl)
set_option maxHeartbeats 8000000 in
set_option maxRecDepth 100000 in
theorem k_L_way (l : Launch) (dC : Nat → ClassId) (dI : Nat → Nat → Nat) (cs : Nat → ClassId) (ad : Nat → Nat) (b1 : Nat) (sz : Nat) (S1 : T1) (p1 : Int32) (p2 : Int32) (r : Int32) (hR : fL_way S1 p1 p2 = some r) : Met l yL_way wsL_way ({ frames := 0, cells := 0, slots := 0, locals := 0 } : Room) (va_Pc [.ref b1, .int p1, .int p2] (pW dC dI (tyL cs) (fl [[(b1, .inl (cs 0, 24, .inl S1))]]) sz)) (QI dC dI (tyL cs) (va_A (fl [[(b1, .inl (cs 0, 24, .inl S1))]]) sz) (fl [[(b1, .inl (cs 0, 24, .inl S1))]]) r) 0 0 (va_A (fl [[(b1, .inl (cs 0, 24, .inl S1))]]) sz) := by
  refine mt_ofC (own := RL) (cc := cL_way) (maxL := 3) (ret := (some .int)) (Qc := fun A => QI dC dI (tyL cs) A (fl [[(b1, .inl (cs 0, 24, .inl S1))]]) r) rfl (by decide) rfl (Nat.le_of_ble_eq_true rfl) (fun p e s m below meth c A ls hsz hx hb hr hts hown hlocks hml hA hK hP hD hS hl => ?_)
  subst hsz
  have hl : lv_has ls 3 [(0, .ref b1), (1, .int p1), (2, .int p2)] := hl
  refine lv_aload_n hx hb dL_way_0 rfl (lv_at hl 0 rfl) ?_
  refine lv_iconst (v := 4) hx hb dL_way_1 ic_4 ?_
  refine lv_iload_n hx hb dL_way_2 rfl (lv_at hl 1 rfl) ?_
  refine lv_imul hx hb dL_way_3 ?_
  replace hR := gi_e hR
  obtain ⟨i4, hR⟩ := hR
  refine va_iald hx hb hK hP 0 0 rfl rfl i4 dL_way_4 ?_
  refine lv_aload_n hx hb dL_way_5 rfl (lv_at hl 0 rfl) ?_
  refine lv_iconst (v := 4) hx hb dL_way_6 ic_4 ?_
  refine lv_iload_n hx hb dL_way_7 rfl (lv_at hl 2 rfl) ?_
  refine lv_imul hx hb dL_way_8 ?_
  replace hR := gi_e hR
  obtain ⟨i9, hR⟩ := hR
  refine va_iald hx hb hK hP 0 0 rfl rfl i9 dL_way_9 ?_
  refine lv_icmp_le (tgt := 27) hx hb dL_way_10 (by decide) (fun c10 => ?_) (fun c10 => ?_)
  · replace hR := it_t hR c10
    refine lv_aload_n hx hb dL_way_27 rfl (lv_at hl 0 rfl) ?_
    refine lv_iconst (v := 4) hx hb dL_way_28 ic_4 ?_
    refine lv_iload_n hx hb dL_way_29 rfl (lv_at hl 2 rfl) ?_
    refine lv_imul hx hb dL_way_30 ?_
    replace hR := gi_e hR
    obtain ⟨i31, hR⟩ := hR
    refine va_iald hx hb hK hP 0 0 rfl rfl i31 dL_way_31 ?_
    refine lv_aload_n hx hb dL_way_32 rfl (lv_at hl 0 rfl) ?_
    refine lv_iconst (v := 4) hx hb dL_way_33 ic_4 ?_
    refine lv_iload_n hx hb dL_way_34 rfl (lv_at hl 1 rfl) ?_
    refine lv_imul hx hb dL_way_35 ?_
    replace hR := gi_e hR
    obtain ⟨i36, hR⟩ := hR
    refine va_iald hx hb hK hP 0 0 rfl rfl i36 dL_way_36 ?_
    refine lv_isub hx hb dL_way_37 ?_
    replace hR := Option.some.inj hR
    have e9 := hR
    exact W.iret hx hb hr (fun t ht hW => ⟨⟨_, (), rfl, e9, by rw [ht]; exact hP, va_K.moved hW.alike hK, hD⟩, hS.F ht⟩) hS.2.2 dL_way_38
  · replace hR := it_f hR c10
    refine lv_aload_n hx hb dL_way_13 rfl (lv_at hl 0 rfl) ?_
    refine lv_iconst (v := 4) hx hb dL_way_14 ic_4 ?_
    refine lv_iload_n hx hb dL_way_15 rfl (lv_at hl 1 rfl) ?_
    refine lv_imul hx hb dL_way_16 ?_
    replace hR := gi_e hR
    obtain ⟨i17, hR⟩ := hR
    refine va_iald hx hb hK hP 0 0 rfl rfl i17 dL_way_17 ?_
    refine lv_aload_n hx hb dL_way_18 rfl (lv_at hl 0 rfl) ?_
    refine lv_iconst (v := 4) hx hb dL_way_19 ic_4 ?_
    refine lv_iload_n hx hb dL_way_20 rfl (lv_at hl 2 rfl) ?_
    refine lv_imul hx hb dL_way_21 ?_
    replace hR := gi_e hR
    obtain ⟨i22, hR⟩ := hR
    refine va_iald hx hb hK hP 0 0 rfl rfl i22 dL_way_22 ?_
    refine lv_isub hx hb dL_way_23 ?_
    refine lv_goto (tgt := 38) hx hb dL_way_24 (by decide) ?_
    replace hR := Option.some.inj hR
    have e9 := hR
    exact W.iret hx hb hr (fun t ht hW => ⟨⟨_, (), rfl, e9, by rw [ht]; exact hP, va_K.moved hW.alike hK, hD⟩, hS.F ht⟩) hS.2.2 dL_way_38
set_option maxHeartbeats 8000000 in
set_option maxRecDepth 100000 in
theorem k_L_fee (l : Launch) (dC : Nat → ClassId) (dI : Nat → Nat → Nat) (cs : Nat → ClassId) (ad : Nat → Nat) (b1 b2 b3 : Nat) (sz : Nat) (S1 : T1) (S2 : T1) (S3 : T1) (p3 : Int32) (r : Int32) (hR : fL_fee S1 S2 S3 p3 = some r) : Met l yL_fee wsL_fee ({ frames := 0, cells := 0, slots := 0, locals := 0 } : Room) (va_Pc [.ref b1, .ref b2, .ref b3, .int p3] (pW dC dI (tyL cs) (fl [[(b1, .inl (cs 0, 8, .inl S1))], [(b2, .inl (cs 0, 40, .inl S2))], [(b3, .inl (cs 0, 32, .inl S3))]]) sz)) (QI dC dI (tyL cs) (va_A (fl [[(b1, .inl (cs 0, 8, .inl S1))], [(b2, .inl (cs 0, 40, .inl S2))], [(b3, .inl (cs 0, 32, .inl S3))]]) sz) (fl [[(b1, .inl (cs 0, 8, .inl S1))], [(b2, .inl (cs 0, 40, .inl S2))], [(b3, .inl (cs 0, 32, .inl S3))]]) r) 0 0 (va_A (fl [[(b1, .inl (cs 0, 8, .inl S1))], [(b2, .inl (cs 0, 40, .inl S2))], [(b3, .inl (cs 0, 32, .inl S3))]]) sz) := by
  refine mt_ofC (own := RL) (cc := cL_fee) (maxL := 6) (ret := (some .int)) (Qc := fun A => QI dC dI (tyL cs) A (fl [[(b1, .inl (cs 0, 8, .inl S1))], [(b2, .inl (cs 0, 40, .inl S2))], [(b3, .inl (cs 0, 32, .inl S3))]]) r) rfl (by decide) rfl (Nat.le_of_ble_eq_true rfl) (fun p e s m below meth c A ls hsz hx hb hr hts hown hlocks hml hA hK hP hD hS hl => ?_)
  subst hsz
  have hl : lv_has ls 6 [(0, .ref b1), (1, .ref b2), (2, .ref b3), (3, .int p3)] := hl
  have hB37 : ∀ (n37 : Nat), ∀ (v4_37 : Int32) (v5_37 : Int32) (H : Heap) (locs : List Loc) (ls : Array Slot), fL_fee_37 S1 S2 S3 p3 n37 v4_37 v5_37 = some r → va_P (dC, dI) vwCl (fl [[(b1, .inl (cs 0, 8, .inl S1))], [(b2, .inl (cs 0, 40, .inl S2))], [(b3, .inl (cs 0, 32, .inl S3))]]) H → va_D A (fl [[(b1, .inl (cs 0, 8, .inl S1))], [(b2, .inl (cs 0, 40, .inl S2))], [(b3, .inl (cs 0, 32, .inl S3))]]) → va_S A s.heap H locs → lv_has ls 6 [(4, .int v4_37), (5, .int v5_37)] → W p l e (headSpec wsL_fee ({ frames := 0, cells := 0, slots := 0, locals := 0 } : Room)).room s m ([.ref b1, .ref b2, .ref b3, .int p3] : List Value).toArray below meth c H locs 0 0 (MQ below (QI dC dI (tyL cs) A (fl [[(b1, .inl (cs 0, 8, .inl S1))], [(b2, .inl (cs 0, 40, .inl S2))], [(b3, .inl (cs 0, 32, .inl S3))]]) r) ([.ref b1, .ref b2, .ref b3, .int p3] : List Value).toArray s 0 0 A) (F0 m 37 ls []) := by
    intro n37
    induction n37 with
    | zero =>
      intro v4_37 v5_37 H locs ls hR hP hD hS hl
      exact nn_e hR
    | succ n37 hI37 =>
      intro v4_37 v5_37 H locs ls hR hP hD hS hl
      rw [fL_fee_37] at hR
      refine lv_iload hx hb dL_fee_37 (lv_at hl 1 rfl) ?_
      refine lv_if_le (tgt := 51) hx hb dL_fee_39 (by decide) (fun c39 => ?_) (fun c39 => ?_)
      · replace hR := it_t hR c39
        refine lv_iload hx hb dL_fee_51 (lv_at hl 0 rfl) ?_
        replace hR := Option.some.inj hR
        have e9 := hR
        exact W.iret hx hb hr (fun t ht hW => ⟨⟨_, (), rfl, e9, by rw [ht]; exact hP, va_K.moved hW.alike hK, hD⟩, hS.F ht⟩) hS.2.2 dL_fee_53
      · replace hR := it_f hR c39
        refine lv_iinc (v := (v4_37 + 1)) (lv' := [(4, .int (v4_37 + 1)), (5, .int v5_37)]) hx hb dL_fee_42 hl (k := 0) rfl rfl (Nat.le_of_ble_eq_true rfl) rfl (fun ls hl => ?_)
        refine lv_iinc (v := (v5_37 + (-5))) (lv' := [(5, .int (v5_37 + (-5))), (4, .int (v4_37 + 1))]) hx hb dL_fee_45 hl (k := 1) rfl rfl (Nat.le_of_ble_eq_true rfl) rfl (fun ls hl => ?_)
        refine lv_goto (tgt := 37) hx hb dL_fee_48 (by decide) ?_
        exact hI37 (v4_37 + 1) (v5_37 + (-5)) H _ ls hR hP hD hS (lv_sub hl [1, 0] rfl)
  have hB14 : ∀ (t0_14 : Int32) (H : Heap) (locs : List Loc) (ls : Array Slot), fL_fee_14 S1 S2 S3 p3 t0_14 = some r → va_P (dC, dI) vwCl (fl [[(b1, .inl (cs 0, 8, .inl S1))], [(b2, .inl (cs 0, 40, .inl S2))], [(b3, .inl (cs 0, 32, .inl S3))]]) H → va_D A (fl [[(b1, .inl (cs 0, 8, .inl S1))], [(b2, .inl (cs 0, 40, .inl S2))], [(b3, .inl (cs 0, 32, .inl S3))]]) → va_S A s.heap H locs → lv_has ls 6 [(0, .ref b1), (1, .ref b2), (3, .int p3)] → W p l e (headSpec wsL_fee ({ frames := 0, cells := 0, slots := 0, locals := 0 } : Room)).room s m ([.ref b1, .ref b2, .ref b3, .int p3] : List Value).toArray below meth c H locs 0 0 (MQ below (QI dC dI (tyL cs) A (fl [[(b1, .inl (cs 0, 8, .inl S1))], [(b2, .inl (cs 0, 40, .inl S2))], [(b3, .inl (cs 0, 32, .inl S3))]]) r) ([.ref b1, .ref b2, .ref b3, .int p3] : List Value).toArray s 0 0 A) (F0 m 14 ls [.int t0_14]) := by
    intro t0_14 H locs ls hR hP hD hS hl
    refine lv_istore (lv' := [(4, .int t0_14), (0, .ref b1), (1, .ref b2), (3, .int p3)]) hx hb dL_fee_14 hl (Nat.le_of_ble_eq_true rfl) rfl (fun ls hl => ?_)
    refine lv_aload_n hx hb dL_fee_16 rfl (lv_at hl 1 rfl) ?_
    refine lv_iconst (v := 4) hx hb dL_fee_17 ic_4 ?_
    refine va_iald hx hb hK hP 0 0 rfl rfl vi_4_8 dL_fee_18 ?_
    refine lv_aload_n hx hb dL_fee_19 rfl (lv_at hl 2 rfl) ?_
    refine lv_iconst (v := 5) hx hb dL_fee_20 ic_5 ?_
    refine lv_iload_n hx hb dL_fee_21 rfl (lv_at hl 3 rfl) ?_
    refine lv_imul hx hb dL_fee_22 ?_
    refine lv_iconst (v := 3) hx hb dL_fee_23 ic_3 ?_
    refine lv_iadd hx hb dL_fee_24 ?_
    replace hR := gi_e hR
    obtain ⟨i25, hR⟩ := hR
    refine va_iald hx hb hK hP 1 0 rfl rfl i25 dL_fee_25 ?_
    refine lv_isub hx hb dL_fee_26 ?_
    refine lv_aload_n hx hb dL_fee_27 rfl (lv_at hl 2 rfl) ?_
    refine lv_iconst (v := 5) hx hb dL_fee_28 ic_5 ?_
    refine lv_iload_n hx hb dL_fee_29 rfl (lv_at hl 3 rfl) ?_
    refine lv_imul hx hb dL_fee_30 ?_
    refine lv_iconst (v := 4) hx hb dL_fee_31 ic_4 ?_
    refine lv_iadd hx hb dL_fee_32 ?_
    replace hR := gi_e hR
    obtain ⟨i33, hR⟩ := hR
    refine va_iald hx hb hK hP 1 0 rfl rfl i33 dL_fee_33 ?_
    refine lv_isub hx hb dL_fee_34 ?_
    replace hR := bn_e hR
    obtain ⟨x35, ex35, hR⟩ := hR
    refine tp_g ex35 ?_
    refine lv_istore (lv' := [(5, .int x35), (4, .int t0_14), (0, .ref b1), (1, .ref b2), (3, .int p3)]) hx hb dL_fee_35 hl (Nat.le_of_ble_eq_true rfl) rfl (fun ls hl => ?_)
    exact hB37 fuel t0_14 x35 H _ ls hR hP hD hS (lv_sub hl [1, 0] rfl)
  refine lv_aload_n hx hb dL_fee_0 rfl (lv_at hl 2 rfl) ?_
  refine lv_iconst (v := 4) hx hb dL_fee_1 ic_4 ?_
  refine lv_iload_n hx hb dL_fee_2 rfl (lv_at hl 3 rfl) ?_
  refine lv_imul hx hb dL_fee_3 ?_
  replace hR := gi_e hR
  obtain ⟨i4, hR⟩ := hR
  refine va_iald hx hb hK hP 2 0 rfl rfl i4 dL_fee_4 ?_
  refine lv_iconst (v := 1) hx hb dL_fee_5 ic_1 ?_
  refine lv_icmp_ne (tgt := 13) hx hb dL_fee_6 (by decide) (fun c6 => ?_) (fun c6 => ?_)
  · replace hR := it_f hR c6
    refine lv_iconst (v := 1) hx hb dL_fee_13 ic_1 ?_
    exact hB14 (1 : Int32) s.heap _ ls hR hP hD hS (lv_sub hl [0, 1, 3] rfl)
  · replace hR := it_t hR c6
    refine lv_iconst (v := 0) hx hb dL_fee_9 ic_0 ?_
    refine lv_goto (tgt := 14) hx hb dL_fee_10 (by decide) ?_
    exact hB14 (0 : Int32) s.heap _ ls hR hP hD hS (lv_sub hl [0, 1, 3] rfl)
set_option maxHeartbeats 8000000 in
set_option maxRecDepth 100000 in
theorem k_L_brings (l : Launch) (dC : Nat → ClassId) (dI : Nat → Nat → Nat) (cs : Nat → ClassId) (ad : Nat → Nat) (en : Nat → Nat) (b1 b2 b3 b4 b5 b6 b7 : Nat) (sz : Nat) (S1 : T1) (S2 : T1) (S3 : T1) (S4 : T1) (S5 : T1) (S6 : T1) (S7 : T1) (S8 : T5) (p8 : Int32) (p9 : Int32) (r : Int32) (u1 : T1) (u2 : T1) (u3 : T1) (u5 : T1) (u7 : T1) (u8 : T5) (hR : fL_brings S1 S2 S3 S4 S5 S6 S7 S8 p8 p9 = some (r, u1, u2, u3, u5, u7, u8)) : Met l yL_brings wsL_brings ({ frames := 6, cells := 0, slots := 0, locals := 137 } : Room) (va_Pc [.ref (ad 0), .ref b1, .ref b2, .ref b3, .ref b4, .ref b5, .ref b6, .ref b7, .int p8, .int p9] (pW dC dI (tyL cs) (fl [[(b1, .inl (cs 0, 8, .inl S1))], [(b2, .inl (cs 0, 24, .inl S2))], [(b3, .inl (cs 0, 48, .inl S3))], [(b4, .inl (cs 0, 48, .inl S4))], [(b5, .inl (cs 0, 40, .inl S5))], [(b6, .inl (cs 0, 32, .inl S6))], [(b7, .inl (cs 0, 6, .inl S7))], (w_X10 ad (0) cs en S8)]) sz)) (QI dC dI (tyL cs) (va_A (fl [[(b1, .inl (cs 0, 8, .inl S1))], [(b2, .inl (cs 0, 24, .inl S2))], [(b3, .inl (cs 0, 48, .inl S3))], [(b4, .inl (cs 0, 48, .inl S4))], [(b5, .inl (cs 0, 40, .inl S5))], [(b6, .inl (cs 0, 32, .inl S6))], [(b7, .inl (cs 0, 6, .inl S7))], (w_X10 ad (0) cs en S8)]) sz) (fl [[(b1, .inl (cs 0, 8, .inl u1))], [(b2, .inl (cs 0, 24, .inl u2))], [(b3, .inl (cs 0, 48, .inl u3))], [(b4, .inl (cs 0, 48, .inl S4))], [(b5, .inl (cs 0, 40, .inl u5))], [(b6, .inl (cs 0, 32, .inl S6))], [(b7, .inl (cs 0, 6, .inl u7))], (w_X10 ad (0) cs en u8)]) r) 0 0 (va_A (fl [[(b1, .inl (cs 0, 8, .inl S1))], [(b2, .inl (cs 0, 24, .inl S2))], [(b3, .inl (cs 0, 48, .inl S3))], [(b4, .inl (cs 0, 48, .inl S4))], [(b5, .inl (cs 0, 40, .inl S5))], [(b6, .inl (cs 0, 32, .inl S6))], [(b7, .inl (cs 0, 6, .inl S7))], (w_X10 ad (0) cs en S8)]) sz) := by
  refine mt_ofC (own := RL) (cc := cL_brings) (maxL := 12) (ret := (some .boolean)) (Qc := fun A => QI dC dI (tyL cs) A (fl [[(b1, .inl (cs 0, 8, .inl u1))], [(b2, .inl (cs 0, 24, .inl u2))], [(b3, .inl (cs 0, 48, .inl u3))], [(b4, .inl (cs 0, 48, .inl S4))], [(b5, .inl (cs 0, 40, .inl u5))], [(b6, .inl (cs 0, 32, .inl S6))], [(b7, .inl (cs 0, 6, .inl u7))], (w_X10 ad (0) cs en u8)]) r) rfl (by decide) rfl (Nat.le_of_ble_eq_true rfl) (fun p e s m below meth c A ls hsz hx hb hr hts hown hlocks hml hA hK hP hD hS hl => ?_)
  subst hsz
  have hl : lv_has ls 12 [(0, .ref (ad 0)), (1, .ref b1), (2, .ref b2), (3, .ref b3), (4, .ref b4), (5, .ref b5), (6, .ref b6), (7, .ref b7), (8, .int p8), (9, .int p9)] := hl
  have hB157 : ∀ (S1_157h : T1) (S2_157h : T1) (S3_157h : T1) (S5_157h : T1) (S7_157h : T1) (S8_157h : T5) (t0_157 : Int32) (t1_157 : Int32) (H : Heap) (locs : List Loc) (ls : Array Slot), fL_brings_157 S4 S6 p8 p9 S1_157h S2_157h S3_157h S5_157h S7_157h S8_157h t0_157 t1_157 = some (r, u1, u2, u3, u5, u7, u8) → va_P (dC, dI) vwCl (fl [[(b1, .inl (cs 0, 8, .inl S1_157h))], [(b2, .inl (cs 0, 24, .inl S2_157h))], [(b3, .inl (cs 0, 48, .inl S3_157h))], [(b4, .inl (cs 0, 48, .inl S4))], [(b5, .inl (cs 0, 40, .inl S5_157h))], [(b6, .inl (cs 0, 32, .inl S6))], [(b7, .inl (cs 0, 6, .inl S7_157h))], (w_X10 ad (0) cs en S8_157h)]) H → va_D A (fl [[(b1, .inl (cs 0, 8, .inl S1_157h))], [(b2, .inl (cs 0, 24, .inl S2_157h))], [(b3, .inl (cs 0, 48, .inl S3_157h))], [(b4, .inl (cs 0, 48, .inl S4))], [(b5, .inl (cs 0, 40, .inl S5_157h))], [(b6, .inl (cs 0, 32, .inl S6))], [(b7, .inl (cs 0, 6, .inl S7_157h))], (w_X10 ad (0) cs en S8_157h)]) → va_S A s.heap H locs → lv_has ls 12 [] → W p l e (headSpec wsL_brings ({ frames := 6, cells := 0, slots := 0, locals := 137 } : Room)).room s m ([.ref (ad 0), .ref b1, .ref b2, .ref b3, .ref b4, .ref b5, .ref b6, .ref b7, .int p8, .int p9] : List Value).toArray below meth c H locs 0 0 (MQ below (QI dC dI (tyL cs) A (fl [[(b1, .inl (cs 0, 8, .inl u1))], [(b2, .inl (cs 0, 24, .inl u2))], [(b3, .inl (cs 0, 48, .inl u3))], [(b4, .inl (cs 0, 48, .inl S4))], [(b5, .inl (cs 0, 40, .inl u5))], [(b6, .inl (cs 0, 32, .inl S6))], [(b7, .inl (cs 0, 6, .inl u7))], (w_X10 ad (0) cs en u8)]) r) ([.ref (ad 0), .ref b1, .ref b2, .ref b3, .ref b4, .ref b5, .ref b6, .ref b7, .int p8, .int p9] : List Value).toArray s 0 0 A) (F0 m 157 ls [.int t1_157, .int t0_157]) := by
    intro S1_157h S2_157h S3_157h S5_157h S7_157h S8_157h t0_157 t1_157 H locs ls hR hP hD hS hl
    refine lv_icmp_ne (tgt := 164) hx hb dL_brings_157 (by decide) (fun c157 => ?_) (fun c157 => ?_)
    · replace hR := it_f hR c157
      refine lv_iconst (v := 0) hx hb dL_brings_164 ic_0 ?_
      replace hR := Option.some.inj hR
      obtain ⟨e9, hR⟩ := Prod.mk.inj hR
      obtain ⟨eu1, hR⟩ := Prod.mk.inj hR
      obtain ⟨eu2, hR⟩ := Prod.mk.inj hR
      obtain ⟨eu3, hR⟩ := Prod.mk.inj hR
      obtain ⟨eu5, hR⟩ := Prod.mk.inj hR
      obtain ⟨eu7, hR⟩ := Prod.mk.inj hR
      have eu8 := hR
      replace hP : va_P (dC, dI) vwCl (fl [[(b1, .inl (cs 0, 8, .inl u1))], [(b2, .inl (cs 0, 24, .inl u2))], [(b3, .inl (cs 0, 48, .inl u3))], [(b4, .inl (cs 0, 48, .inl S4))], [(b5, .inl (cs 0, 40, .inl u5))], [(b6, .inl (cs 0, 32, .inl S6))], [(b7, .inl (cs 0, 6, .inl u7))], (w_X10 ad (0) cs en u8)]) H := by rw [← eu1, ← eu2, ← eu3, ← eu5, ← eu7, ← eu8]; exact hP
      replace hD : va_D A (fl [[(b1, .inl (cs 0, 8, .inl u1))], [(b2, .inl (cs 0, 24, .inl u2))], [(b3, .inl (cs 0, 48, .inl u3))], [(b4, .inl (cs 0, 48, .inl S4))], [(b5, .inl (cs 0, 40, .inl u5))], [(b6, .inl (cs 0, 32, .inl S6))], [(b7, .inl (cs 0, 6, .inl u7))], (w_X10 ad (0) cs en u8)]) := by rw [← eu1, ← eu2, ← eu3, ← eu5, ← eu7, ← eu8]; exact hD
      exact W.zret (ty := .boolean) hx hb hr (by decide) (fun t ht hW => ⟨⟨_, (), rfl, e9, by rw [ht]; exact hP, va_K.moved hW.alike hK, hD⟩, hS.F ht⟩) hS.2.2 dL_brings_165
    · replace hR := it_t hR c157
      refine lv_iconst (v := 1) hx hb dL_brings_160 ic_1 ?_
      refine lv_goto (tgt := 165) hx hb dL_brings_161 (by decide) ?_
      replace hR := Option.some.inj hR
      obtain ⟨e9, hR⟩ := Prod.mk.inj hR
      obtain ⟨eu1, hR⟩ := Prod.mk.inj hR
      obtain ⟨eu2, hR⟩ := Prod.mk.inj hR
      obtain ⟨eu3, hR⟩ := Prod.mk.inj hR
      obtain ⟨eu5, hR⟩ := Prod.mk.inj hR
      obtain ⟨eu7, hR⟩ := Prod.mk.inj hR
      have eu8 := hR
      replace hP : va_P (dC, dI) vwCl (fl [[(b1, .inl (cs 0, 8, .inl u1))], [(b2, .inl (cs 0, 24, .inl u2))], [(b3, .inl (cs 0, 48, .inl u3))], [(b4, .inl (cs 0, 48, .inl S4))], [(b5, .inl (cs 0, 40, .inl u5))], [(b6, .inl (cs 0, 32, .inl S6))], [(b7, .inl (cs 0, 6, .inl u7))], (w_X10 ad (0) cs en u8)]) H := by rw [← eu1, ← eu2, ← eu3, ← eu5, ← eu7, ← eu8]; exact hP
      replace hD : va_D A (fl [[(b1, .inl (cs 0, 8, .inl u1))], [(b2, .inl (cs 0, 24, .inl u2))], [(b3, .inl (cs 0, 48, .inl u3))], [(b4, .inl (cs 0, 48, .inl S4))], [(b5, .inl (cs 0, 40, .inl u5))], [(b6, .inl (cs 0, 32, .inl S6))], [(b7, .inl (cs 0, 6, .inl u7))], (w_X10 ad (0) cs en u8)]) := by rw [← eu1, ← eu2, ← eu3, ← eu5, ← eu7, ← eu8]; exact hD
      exact W.zret (ty := .boolean) hx hb hr (by decide) (fun t ht hW => ⟨⟨_, (), rfl, e9, by rw [ht]; exact hP, va_K.moved hW.alike hK, hD⟩, hS.F ht⟩) hS.2.2 dL_brings_165
  have hB133 : ∀ (S1_133h : T1) (S2_133h : T1) (S3_133h : T1) (S5_133h : T1) (S7_133h : T1) (S8_133h : T5) (v10_133 : Int32) (H : Heap) (locs : List Loc) (ls : Array Slot), fL_brings_133 S4 S6 p8 p9 S1_133h S2_133h S3_133h S5_133h S7_133h S8_133h v10_133 = some (r, u1, u2, u3, u5, u7, u8) → va_P (dC, dI) vwCl (fl [[(b1, .inl (cs 0, 8, .inl S1_133h))], [(b2, .inl (cs 0, 24, .inl S2_133h))], [(b3, .inl (cs 0, 48, .inl S3_133h))], [(b4, .inl (cs 0, 48, .inl S4))], [(b5, .inl (cs 0, 40, .inl S5_133h))], [(b6, .inl (cs 0, 32, .inl S6))], [(b7, .inl (cs 0, 6, .inl S7_133h))], (w_X10 ad (0) cs en S8_133h)]) H → va_D A (fl [[(b1, .inl (cs 0, 8, .inl S1_133h))], [(b2, .inl (cs 0, 24, .inl S2_133h))], [(b3, .inl (cs 0, 48, .inl S3_133h))], [(b4, .inl (cs 0, 48, .inl S4))], [(b5, .inl (cs 0, 40, .inl S5_133h))], [(b6, .inl (cs 0, 32, .inl S6))], [(b7, .inl (cs 0, 6, .inl S7_133h))], (w_X10 ad (0) cs en S8_133h)]) → va_S A s.heap H locs → lv_has ls 12 [(0, .ref (ad 0)), (1, .ref b1), (2, .ref b2), (3, .ref b3), (10, .int v10_133)] → W p l e (headSpec wsL_brings ({ frames := 6, cells := 0, slots := 0, locals := 137 } : Room)).room s m ([.ref (ad 0), .ref b1, .ref b2, .ref b3, .ref b4, .ref b5, .ref b6, .ref b7, .int p8, .int p9] : List Value).toArray below meth c H locs 0 0 (MQ below (QI dC dI (tyL cs) A (fl [[(b1, .inl (cs 0, 8, .inl u1))], [(b2, .inl (cs 0, 24, .inl u2))], [(b3, .inl (cs 0, 48, .inl u3))], [(b4, .inl (cs 0, 48, .inl S4))], [(b5, .inl (cs 0, 40, .inl u5))], [(b6, .inl (cs 0, 32, .inl S6))], [(b7, .inl (cs 0, 6, .inl u7))], (w_X10 ad (0) cs en u8)]) r) ([.ref (ad 0), .ref b1, .ref b2, .ref b3, .ref b4, .ref b5, .ref b6, .ref b7, .int p8, .int p9] : List Value).toArray s 0 0 A) (F0 m 133 ls []) := by
    intro S1_133h S2_133h S3_133h S5_133h S7_133h S8_133h v10_133 H locs ls hR hP hD hS hl
    refine lv_aload_n hx hb dL_brings_133 rfl (lv_at hl 0 rfl) ?_
    refine lv_iload hx hb dL_brings_134 (lv_at hl 4 rfl) ?_
    replace hR := bd_e hR
    obtain ⟨q136, gq136, hR⟩ := hR
    refine cm_Vi (As := [.int v10_133]) (rest := []) (L := [[(b1, .inl (cs 0, 8, .inl S1_133h))], [(b2, .inl (cs 0, 24, .inl S2_133h))], [(b3, .inl (cs 0, 48, .inl S3_133h))], [(b4, .inl (cs 0, 48, .inl S4))], [(b5, .inl (cs 0, 40, .inl S5_133h))], [(b6, .inl (cs 0, 32, .inl S6))], [(b7, .inl (cs 0, 6, .inl S7_133h))], (w_X10 ad (0) cs en S8_133h)]) (L' := [[(b1, .inl (cs 0, 8, .inl S1_133h))], [(b2, .inl (cs 0, 24, .inl S2_133h))], [(b3, .inl (cs 0, 48, .inl S3_133h))], [(b4, .inl (cs 0, 48, .inl S4))], [(b5, .inl (cs 0, 40, .inl S5_133h))], [(b6, .inl (cs 0, 32, .inl S6))], [(b7, .inl (cs 0, 6, .inl S7_133h))], (w_X10 ad (0) cs en q136.2)]) (Wc := [(w_X10 ad (0) cs en S8_133h)]) (Wc' := [(w_X10 ad (0) cs en q136.2)]) (is := [7]) (js := [0, 1, 2, 3, 4, 5, 6]) ⟨hx, hb, hml, hown, hts⟩ (k_X10_bicycle l dC dI cs ad en H.size S8_133h v10_133 q136.1 q136.2 gq136) (cwV 1 hts gL_brings_X10_bicycle rfl rfl rfl cd_X10_bicycle ⟨Nat.le_of_ble_eq_true rfl, Nat.le_of_ble_eq_true rfl⟩) hK hP hD hS hA (jx_7 (w_X10_fst ad 0 cs en _ _)) (jn_nd (is := [7]) hD rfl rfl) 7 8 rfl rfl rfl rfl rfl hl.1 (Nat.le_of_ble_eq_true rfl) dL_brings_136 ⟨Nat.le_of_ble_eq_true rfl, Nat.le_of_ble_eq_true rfl⟩ (fun H136 locs136 hP' hD' hS' => ?_)
    replace hS := hS'
    replace hP : va_P (dC, dI) vwCl (fl [[(b1, .inl (cs 0, 8, .inl S1_133h))], [(b2, .inl (cs 0, 24, .inl S2_133h))], [(b3, .inl (cs 0, 48, .inl S3_133h))], [(b4, .inl (cs 0, 48, .inl S4))], [(b5, .inl (cs 0, 40, .inl S5_133h))], [(b6, .inl (cs 0, 32, .inl S6))], [(b7, .inl (cs 0, 6, .inl S7_133h))], (w_X10 ad (0) cs en q136.2)]) H136 := hP'
    replace hD : va_D A (fl [[(b1, .inl (cs 0, 8, .inl S1_133h))], [(b2, .inl (cs 0, 24, .inl S2_133h))], [(b3, .inl (cs 0, 48, .inl S3_133h))], [(b4, .inl (cs 0, 48, .inl S4))], [(b5, .inl (cs 0, 40, .inl S5_133h))], [(b6, .inl (cs 0, 32, .inl S6))], [(b7, .inl (cs 0, 6, .inl S7_133h))], (w_X10 ad (0) cs en q136.2)]) := hD'
    clear hP' hD' hS'
    refine lv_aload_n hx hb dL_brings_139 rfl (lv_at hl 1 rfl) ?_
    refine lv_aload_n hx hb dL_brings_140 rfl (lv_at hl 2 rfl) ?_
    refine lv_aload_n hx hb dL_brings_141 rfl (lv_at hl 3 rfl) ?_
    refine lv_iload hx hb dL_brings_142 (lv_at hl 4 rfl) ?_
    replace hR := bd_e hR
    obtain ⟨q144, gq144, hR⟩ := hR
    refine cm_Si (As := [.ref b1, .ref b2, .ref b3, .int v10_133]) (rest := [.int q136.1]) (L := [[(b1, .inl (cs 0, 8, .inl S1_133h))], [(b2, .inl (cs 0, 24, .inl S2_133h))], [(b3, .inl (cs 0, 48, .inl S3_133h))], [(b4, .inl (cs 0, 48, .inl S4))], [(b5, .inl (cs 0, 40, .inl S5_133h))], [(b6, .inl (cs 0, 32, .inl S6))], [(b7, .inl (cs 0, 6, .inl S7_133h))], (w_X10 ad (0) cs en q136.2)]) (L' := [[(b1, .inl (cs 0, 8, .inl S1_133h))], [(b2, .inl (cs 0, 24, .inl S2_133h))], [(b3, .inl (cs 0, 48, .inl S3_133h))], [(b4, .inl (cs 0, 48, .inl S4))], [(b5, .inl (cs 0, 40, .inl S5_133h))], [(b6, .inl (cs 0, 32, .inl S6))], [(b7, .inl (cs 0, 6, .inl S7_133h))], (w_X10 ad (0) cs en q136.2)]) (Wc := [[(b1, .inl (cs 0, 8, .inl S1_133h))], [(b2, .inl (cs 0, 24, .inl S2_133h))], [(b3, .inl (cs 0, 48, .inl S3_133h))]]) (Wc' := [[(b1, .inl (cs 0, 8, .inl S1_133h))], [(b2, .inl (cs 0, 24, .inl S2_133h))], [(b3, .inl (cs 0, 48, .inl S3_133h))]]) (is := [0, 1, 2]) (js := [3, 4, 5, 6, 7]) ⟨hx, hb, hml, hown, hts⟩ (k_L_free l dC dI cs ad (b1) (b2) (b3) H136.size S1_133h S2_133h S3_133h v10_133 q144 gq144) (va_cwS 4 hts gL_brings_L_free rfl rfl rfl cd_L_free.2 ⟨Nat.le_of_ble_eq_true rfl, Nat.le_of_ble_eq_true rfl⟩) hK hP hD hS hA ⟨rfl, rfl, rfl, rfl, rfl, rfl⟩ (jn_nd (is := [0, 1, 2]) hD rfl rfl) rfl rfl hl.1 (Nat.le_of_ble_eq_true rfl) dL_brings_144 ⟨Nat.le_of_ble_eq_true rfl, Nat.le_of_ble_eq_true rfl⟩ (fun H144 locs144 hP' hD' hS' => ?_)
    replace hS := hS'
    replace hP : va_P (dC, dI) vwCl (fl [[(b1, .inl (cs 0, 8, .inl S1_133h))], [(b2, .inl (cs 0, 24, .inl S2_133h))], [(b3, .inl (cs 0, 48, .inl S3_133h))], [(b4, .inl (cs 0, 48, .inl S4))], [(b5, .inl (cs 0, 40, .inl S5_133h))], [(b6, .inl (cs 0, 32, .inl S6))], [(b7, .inl (cs 0, 6, .inl S7_133h))], (w_X10 ad (0) cs en q136.2)]) H144 := hP'
    replace hD : va_D A (fl [[(b1, .inl (cs 0, 8, .inl S1_133h))], [(b2, .inl (cs 0, 24, .inl S2_133h))], [(b3, .inl (cs 0, 48, .inl S3_133h))], [(b4, .inl (cs 0, 48, .inl S4))], [(b5, .inl (cs 0, 40, .inl S5_133h))], [(b6, .inl (cs 0, 32, .inl S6))], [(b7, .inl (cs 0, 6, .inl S7_133h))], (w_X10 ad (0) cs en q136.2)]) := hD'
    clear hP' hD' hS'
    refine lv_if_eq (tgt := 155) hx hb dL_brings_147 (by decide) (fun c147 => ?_) (fun c147 => ?_)
    · replace hR := it_t hR c147
      refine lv_bipush (v := (-2)) hx hb dL_brings_155 bp_m2 ?_
      exact hB157 S1_133h S2_133h S3_133h S5_133h S7_133h q136.2 q136.1 (-2) H144 _ ls hR hP hD hS (lv_sub hl [] rfl)
    · replace hR := it_f hR c147
      refine lv_bipush (v := (-3)) hx hb dL_brings_150 bp_m3 ?_
      refine lv_goto (tgt := 157) hx hb dL_brings_152 (by decide) ?_
      exact hB157 S1_133h S2_133h S3_133h S5_133h S7_133h q136.2 q136.1 (-3) H144 _ ls hR hP hD hS (lv_sub hl [] rfl)
  refine lv_iload hx hb dL_brings_0 (lv_at hl 8 rfl) ?_
  refine lv_if_ne (tgt := 100) hx hb dL_brings_2 (by decide) (fun c2 => ?_) (fun c2 => ?_)
  · replace hR := it_f hR c2
    refine lv_iload hx hb dL_brings_100 (lv_at hl 8 rfl) ?_
    refine lv_iconst (v := 1) hx hb dL_brings_102 ic_1 ?_
    refine lv_icmp_ne (tgt := 204) hx hb dL_brings_103 (by decide) (fun c103 => ?_) (fun c103 => ?_)
    · replace hR := it_f hR c103
      refine lv_iload hx hb dL_brings_204 (lv_at hl 8 rfl) ?_
      refine lv_iconst (v := 2) hx hb dL_brings_206 ic_2 ?_
      refine lv_icmp_ne (tgt := 270) hx hb dL_brings_207 (by decide) (fun c207 => ?_) (fun c207 => ?_)
      · replace hR := it_f hR c207
        refine lv_iload hx hb dL_brings_270 (lv_at hl 9 rfl) ?_
        refine lv_aload_n hx hb dL_brings_272 rfl (lv_at hl 1 rfl) ?_
        refine lv_iconst (v := 0) hx hb dL_brings_273 ic_0 ?_
        refine va_iald hx hb hK hP 0 0 rfl rfl vi_0_8 dL_brings_274 ?_
        replace hR := nz_e hR
        obtain ⟨z275, hR⟩ := hR
        refine lv_irem hx hb dL_brings_275 z275 ?_
        replace hR := bn_e hR
        obtain ⟨x276, ex276, hR⟩ := hR
        refine tp_g ex276 ?_
        refine lv_istore (lv' := [(10, .int x276), (0, .ref (ad 0)), (1, .ref b1), (2, .ref b2), (3, .ref b3), (4, .ref b4), (5, .ref b5), (6, .ref b6), (7, .ref b7), (8, .int p8), (9, .int p9)]) hx hb dL_brings_276 hl (Nat.le_of_ble_eq_true rfl) rfl (fun ls hl => ?_)
        refine lv_iconst (v := 1) hx hb dL_brings_278 ic_1 ?_
        refine lv_iload hx hb dL_brings_279 (lv_at hl 10 rfl) ?_
        refine lv_bipush (v := 6) hx hb dL_brings_281 bp_6 ?_
        refine lv_idiv hx hb dL_brings_283 (by decide) ?_
        refine lv_bipush (v := 6) hx hb dL_brings_284 bp_6 ?_
        refine lv_irem hx hb dL_brings_286 (by decide) ?_
        refine lv_iadd hx hb dL_brings_287 ?_
        replace hR := bn_e hR
        obtain ⟨x288, ex288, hR⟩ := hR
        refine tp_g ex288 ?_
        refine lv_istore (lv' := [(11, .int x288), (10, .int x276), (0, .ref (ad 0)), (1, .ref b1), (2, .ref b2), (3, .ref b3), (4, .ref b4), (5, .ref b5), (6, .ref b6), (7, .ref b7), (8, .int p8), (9, .int p9)]) hx hb dL_brings_288 hl (Nat.le_of_ble_eq_true rfl) rfl (fun ls hl => ?_)
        refine lv_aload_n hx hb dL_brings_290 rfl (lv_at hl 3 rfl) ?_
        refine lv_iconst (v := 3) hx hb dL_brings_291 ic_3 ?_
        refine va_iald hx hb hK hP 0 0 rfl rfl vi_3_8 dL_brings_292 ?_
        refine lv_iconst (v := 2) hx hb dL_brings_293 ic_2 ?_
        refine lv_icmp_ne (tgt := 316) hx hb dL_brings_294 (by decide) (fun c294 => ?_) (fun c294 => ?_)
        · replace hR := it_f hR c294
          refine lv_aload hx hb dL_brings_316 (lv_at hl 9 rfl) ?_
          refine lv_iconst (v := 3) hx hb dL_brings_318 ic_3 ?_
          refine lv_aload_n hx hb dL_brings_319 rfl (lv_at hl 3 rfl) ?_
          refine lv_iconst (v := 3) hx hb dL_brings_320 ic_3 ?_
          refine va_iald hx hb hK hP 0 0 rfl rfl vi_3_8 dL_brings_321 ?_
          refine lv_imul hx hb dL_brings_322 ?_
          refine lv_iload hx hb dL_brings_323 (lv_at hl 1 rfl) ?_
          replace hR := gi_e hR
          obtain ⟨i325, hR⟩ := hR
          refine va_iast hx hb hK hP hD hS 6 0 rfl rfl i325 dL_brings_325 (fun H325 locs325 hP' hD' hS' => ?_)
          replace hS := hS'
          have hP' : va_P (dC, dI) vwCl (fl [[(b1, .inl (cs 0, 8, .inl S1))], [(b2, .inl (cs 0, 24, .inl S2))], [(b3, .inl (cs 0, 48, .inl S3))], [(b4, .inl (cs 0, 48, .inl S4))], [(b5, .inl (cs 0, 40, .inl S5))], [(b6, .inl (cs 0, 32, .inl S6))], [(b7, .inl (cs 0, 6, .inl (sU S7 ((3 : Int32) * (S1  (3 : Int32).toNatClampNeg)).toNatClampNeg x276)))], (w_X10 ad (0) cs en S8)]) H325 := hP'
          have hD' : va_D A (fl [[(b1, .inl (cs 0, 8, .inl S1))], [(b2, .inl (cs 0, 24, .inl S2))], [(b3, .inl (cs 0, 48, .inl S3))], [(b4, .inl (cs 0, 48, .inl S4))], [(b5, .inl (cs 0, 40, .inl S5))], [(b6, .inl (cs 0, 32, .inl S6))], [(b7, .inl (cs 0, 6, .inl (sU S7 ((3 : Int32) * (S1  (3 : Int32).toNatClampNeg)).toNatClampNeg x276)))], (w_X10 ad (0) cs en S8)]) := hD'
          replace hR := bn_e hR
          obtain ⟨S7_325, eS7_325, hR⟩ := hR
          replace hP : va_P (dC, dI) vwCl (fl [[(b1, .inl (cs 0, 8, .inl S1))], [(b2, .inl (cs 0, 24, .inl S2))], [(b3, .inl (cs 0, 48, .inl S3))], [(b4, .inl (cs 0, 48, .inl S4))], [(b5, .inl (cs 0, 40, .inl S5))], [(b6, .inl (cs 0, 32, .inl S6))], [(b7, .inl (cs 0, 6, .inl S7_325))], (w_X10 ad (0) cs en S8)]) H325 := by rw [eS7_325]; exact hP'
          replace hD : va_D A (fl [[(b1, .inl (cs 0, 8, .inl S1))], [(b2, .inl (cs 0, 24, .inl S2))], [(b3, .inl (cs 0, 48, .inl S3))], [(b4, .inl (cs 0, 48, .inl S4))], [(b5, .inl (cs 0, 40, .inl S5))], [(b6, .inl (cs 0, 32, .inl S6))], [(b7, .inl (cs 0, 6, .inl S7_325))], (w_X10 ad (0) cs en S8)]) := by rw [eS7_325]; exact hD'
          clear hP' hD' hS'
          refine lv_aload hx hb dL_brings_326 (lv_at hl 9 rfl) ?_
          refine lv_iconst (v := 3) hx hb dL_brings_328 ic_3 ?_
          refine lv_aload_n hx hb dL_brings_329 rfl (lv_at hl 3 rfl) ?_
          refine lv_iconst (v := 3) hx hb dL_brings_330 ic_3 ?_
          refine va_iald hx hb hK hP 0 0 rfl rfl vi_3_8 dL_brings_331 ?_
          refine lv_imul hx hb dL_brings_332 ?_
          refine lv_iconst (v := 1) hx hb dL_brings_333 ic_1 ?_
          refine lv_iadd hx hb dL_brings_334 ?_
          refine lv_iload hx hb dL_brings_335 (lv_at hl 0 rfl) ?_
          replace hR := gi_e hR
          obtain ⟨i337, hR⟩ := hR
          refine va_iast hx hb hK hP hD hS 6 0 rfl rfl i337 dL_brings_337 (fun H337 locs337 hP' hD' hS' => ?_)
          replace hS := hS'
          have hP' : va_P (dC, dI) vwCl (fl [[(b1, .inl (cs 0, 8, .inl S1))], [(b2, .inl (cs 0, 24, .inl S2))], [(b3, .inl (cs 0, 48, .inl S3))], [(b4, .inl (cs 0, 48, .inl S4))], [(b5, .inl (cs 0, 40, .inl S5))], [(b6, .inl (cs 0, 32, .inl S6))], [(b7, .inl (cs 0, 6, .inl (sU S7_325 (((3 : Int32) * (S1  (3 : Int32).toNatClampNeg)) + 1).toNatClampNeg x288)))], (w_X10 ad (0) cs en S8)]) H337 := hP'
          have hD' : va_D A (fl [[(b1, .inl (cs 0, 8, .inl S1))], [(b2, .inl (cs 0, 24, .inl S2))], [(b3, .inl (cs 0, 48, .inl S3))], [(b4, .inl (cs 0, 48, .inl S4))], [(b5, .inl (cs 0, 40, .inl S5))], [(b6, .inl (cs 0, 32, .inl S6))], [(b7, .inl (cs 0, 6, .inl (sU S7_325 (((3 : Int32) * (S1  (3 : Int32).toNatClampNeg)) + 1).toNatClampNeg x288)))], (w_X10 ad (0) cs en S8)]) := hD'
          replace hR := bn_e hR
          obtain ⟨S7_337, eS7_337, hR⟩ := hR
          replace hP : va_P (dC, dI) vwCl (fl [[(b1, .inl (cs 0, 8, .inl S1))], [(b2, .inl (cs 0, 24, .inl S2))], [(b3, .inl (cs 0, 48, .inl S3))], [(b4, .inl (cs 0, 48, .inl S4))], [(b5, .inl (cs 0, 40, .inl S5))], [(b6, .inl (cs 0, 32, .inl S6))], [(b7, .inl (cs 0, 6, .inl S7_337))], (w_X10 ad (0) cs en S8)]) H337 := by rw [eS7_337]; exact hP'
          replace hD : va_D A (fl [[(b1, .inl (cs 0, 8, .inl S1))], [(b2, .inl (cs 0, 24, .inl S2))], [(b3, .inl (cs 0, 48, .inl S3))], [(b4, .inl (cs 0, 48, .inl S4))], [(b5, .inl (cs 0, 40, .inl S5))], [(b6, .inl (cs 0, 32, .inl S6))], [(b7, .inl (cs 0, 6, .inl S7_337))], (w_X10 ad (0) cs en S8)]) := by rw [eS7_337]; exact hD'
          clear hP' hD' hS'
          refine lv_aload_n hx hb dL_brings_338 rfl (lv_at hl 3 rfl) ?_
          refine lv_iconst (v := 3) hx hb dL_brings_339 ic_3 ?_
          refine lv_dup2_11 hx hb dL_brings_340 rfl rfl ?_
          refine va_iald hx hb hK hP 0 0 rfl rfl vi_3_8 dL_brings_341 ?_
          refine lv_iconst (v := 1) hx hb dL_brings_342 ic_1 ?_
          refine lv_iadd hx hb dL_brings_343 ?_
          refine va_iast hx hb hK hP hD hS 0 0 rfl rfl vi_3_8 dL_brings_344 (fun H344 locs344 hP' hD' hS' => ?_)
          replace hS := hS'
          have hP' : va_P (dC, dI) vwCl (fl [[(b1, .inl (cs 0, 8, .inl (sU S1 (3 : Int32).toNatClampNeg ((S1  (3 : Int32).toNatClampNeg) + 1))))], [(b2, .inl (cs 0, 24, .inl S2))], [(b3, .inl (cs 0, 48, .inl S3))], [(b4, .inl (cs 0, 48, .inl S4))], [(b5, .inl (cs 0, 40, .inl S5))], [(b6, .inl (cs 0, 32, .inl S6))], [(b7, .inl (cs 0, 6, .inl S7_337))], (w_X10 ad (0) cs en S8)]) H344 := hP'
          have hD' : va_D A (fl [[(b1, .inl (cs 0, 8, .inl (sU S1 (3 : Int32).toNatClampNeg ((S1  (3 : Int32).toNatClampNeg) + 1))))], [(b2, .inl (cs 0, 24, .inl S2))], [(b3, .inl (cs 0, 48, .inl S3))], [(b4, .inl (cs 0, 48, .inl S4))], [(b5, .inl (cs 0, 40, .inl S5))], [(b6, .inl (cs 0, 32, .inl S6))], [(b7, .inl (cs 0, 6, .inl S7_337))], (w_X10 ad (0) cs en S8)]) := hD'
          replace hR := bn_e hR
          obtain ⟨S1_344, eS1_344, hR⟩ := hR
          replace hP : va_P (dC, dI) vwCl (fl [[(b1, .inl (cs 0, 8, .inl S1_344))], [(b2, .inl (cs 0, 24, .inl S2))], [(b3, .inl (cs 0, 48, .inl S3))], [(b4, .inl (cs 0, 48, .inl S4))], [(b5, .inl (cs 0, 40, .inl S5))], [(b6, .inl (cs 0, 32, .inl S6))], [(b7, .inl (cs 0, 6, .inl S7_337))], (w_X10 ad (0) cs en S8)]) H344 := by rw [eS1_344]; exact hP'
          replace hD : va_D A (fl [[(b1, .inl (cs 0, 8, .inl S1_344))], [(b2, .inl (cs 0, 24, .inl S2))], [(b3, .inl (cs 0, 48, .inl S3))], [(b4, .inl (cs 0, 48, .inl S4))], [(b5, .inl (cs 0, 40, .inl S5))], [(b6, .inl (cs 0, 32, .inl S6))], [(b7, .inl (cs 0, 6, .inl S7_337))], (w_X10 ad (0) cs en S8)]) := by rw [eS1_344]; exact hD'
          clear hP' hD' hS'
          refine lv_aload_n hx hb dL_brings_345 rfl (lv_at hl 2 rfl) ?_
          refine lv_iload hx hb dL_brings_346 (lv_at hl 1 rfl) ?_
          refine lv_iload hx hb dL_brings_348 (lv_at hl 0 rfl) ?_
          replace hR := bd_e hR
          obtain ⟨q350, gq350, hR⟩ := hR
          refine cm_Vi (As := [.int x276, .int x288]) (rest := []) (L := [[(b1, .inl (cs 0, 8, .inl S1_344))], [(b2, .inl (cs 0, 24, .inl S2))], [(b3, .inl (cs 0, 48, .inl S3))], [(b4, .inl (cs 0, 48, .inl S4))], [(b5, .inl (cs 0, 40, .inl S5))], [(b6, .inl (cs 0, 32, .inl S6))], [(b7, .inl (cs 0, 6, .inl S7_337))], (w_X10 ad (0) cs en S8)]) (L' := [[(b1, .inl (cs 0, 8, .inl S1_344))], [(b2, .inl (cs 0, 24, .inl S2))], [(b3, .inl (cs 0, 48, .inl S3))], [(b4, .inl (cs 0, 48, .inl S4))], [(b5, .inl (cs 0, 40, .inl S5))], [(b6, .inl (cs 0, 32, .inl S6))], [(b7, .inl (cs 0, 6, .inl S7_337))], (w_X10 ad (0) cs en q350.2)]) (Wc := [(w_X10 ad (0) cs en S8)]) (Wc' := [(w_X10 ad (0) cs en q350.2)]) (is := [7]) (js := [0, 1, 2, 3, 4, 5, 6]) ⟨hx, hb, hml, hown, hts⟩ (k_X10_van l dC dI cs ad en H344.size S8 x276 x288 q350.1 q350.2 gq350) (cwV 2 hts gL_brings_X10_van rfl rfl rfl cd_X10_van ⟨Nat.le_of_ble_eq_true rfl, Nat.le_of_ble_eq_true rfl⟩) hK hP hD hS hA (jx_7 (w_X10_fst ad 0 cs en _ _)) (jn_nd (is := [7]) hD rfl rfl) 7 8 rfl rfl rfl rfl rfl hl.1 (Nat.le_of_ble_eq_true rfl) dL_brings_350 ⟨Nat.le_of_ble_eq_true rfl, Nat.le_of_ble_eq_true rfl⟩ (fun H350 locs350 hP' hD' hS' => ?_)
          replace hS := hS'
          replace hP : va_P (dC, dI) vwCl (fl [[(b1, .inl (cs 0, 8, .inl S1_344))], [(b2, .inl (cs 0, 24, .inl S2))], [(b3, .inl (cs 0, 48, .inl S3))], [(b4, .inl (cs 0, 48, .inl S4))], [(b5, .inl (cs 0, 40, .inl S5))], [(b6, .inl (cs 0, 32, .inl S6))], [(b7, .inl (cs 0, 6, .inl S7_337))], (w_X10 ad (0) cs en q350.2)]) H350 := hP'
          replace hD : va_D A (fl [[(b1, .inl (cs 0, 8, .inl S1_344))], [(b2, .inl (cs 0, 24, .inl S2))], [(b3, .inl (cs 0, 48, .inl S3))], [(b4, .inl (cs 0, 48, .inl S4))], [(b5, .inl (cs 0, 40, .inl S5))], [(b6, .inl (cs 0, 32, .inl S6))], [(b7, .inl (cs 0, 6, .inl S7_337))], (w_X10 ad (0) cs en q350.2)]) := hD'
          clear hP' hD' hS'
          refine lv_aload_n hx hb dL_brings_353 rfl (lv_at hl 3 rfl) ?_
          refine lv_iconst (v := 3) hx hb dL_brings_354 ic_3 ?_
          refine va_iald hx hb hK hP 0 0 rfl rfl vi_3_8 dL_brings_355 ?_
          refine lv_iconst (v := 1) hx hb dL_brings_356 ic_1 ?_
          refine lv_isub hx hb dL_brings_357 ?_
          refine lv_icmp_ne (tgt := 365) hx hb dL_brings_358 (by decide) (fun c358 => ?_) (fun c358 => ?_)
          · replace hR := it_f hR c358
            refine lv_iconst (v := 0) hx hb dL_brings_365 ic_0 ?_
            replace hR := Option.some.inj hR
            obtain ⟨e9, hR⟩ := Prod.mk.inj hR
            obtain ⟨eu1, hR⟩ := Prod.mk.inj hR
            obtain ⟨eu2, hR⟩ := Prod.mk.inj hR
            obtain ⟨eu3, hR⟩ := Prod.mk.inj hR
            obtain ⟨eu5, hR⟩ := Prod.mk.inj hR
            obtain ⟨eu7, hR⟩ := Prod.mk.inj hR
            have eu8 := hR
            replace hP : va_P (dC, dI) vwCl (fl [[(b1, .inl (cs 0, 8, .inl u1))], [(b2, .inl (cs 0, 24, .inl u2))], [(b3, .inl (cs 0, 48, .inl u3))], [(b4, .inl (cs 0, 48, .inl S4))], [(b5, .inl (cs 0, 40, .inl u5))], [(b6, .inl (cs 0, 32, .inl S6))], [(b7, .inl (cs 0, 6, .inl u7))], (w_X10 ad (0) cs en u8)]) H350 := by rw [← eu1, ← eu2, ← eu3, ← eu5, ← eu7, ← eu8]; exact hP
            replace hD : va_D A (fl [[(b1, .inl (cs 0, 8, .inl u1))], [(b2, .inl (cs 0, 24, .inl u2))], [(b3, .inl (cs 0, 48, .inl u3))], [(b4, .inl (cs 0, 48, .inl S4))], [(b5, .inl (cs 0, 40, .inl u5))], [(b6, .inl (cs 0, 32, .inl S6))], [(b7, .inl (cs 0, 6, .inl u7))], (w_X10 ad (0) cs en u8)]) := by rw [← eu1, ← eu2, ← eu3, ← eu5, ← eu7, ← eu8]; exact hD
            exact W.zret (ty := .boolean) hx hb hr (by decide) (fun t ht hW => ⟨⟨_, (), rfl, e9, by rw [ht]; exact hP, va_K.moved hW.alike hK, hD⟩, hS.F ht⟩) hS.2.2 dL_brings_366
          · replace hR := it_t hR c358
            refine lv_iconst (v := 1) hx hb dL_brings_361 ic_1 ?_
            refine lv_goto (tgt := 366) hx hb dL_brings_362 (by decide) ?_
            replace hR := Option.some.inj hR
            obtain ⟨e9, hR⟩ := Prod.mk.inj hR
            obtain ⟨eu1, hR⟩ := Prod.mk.inj hR
            obtain ⟨eu2, hR⟩ := Prod.mk.inj hR
            obtain ⟨eu3, hR⟩ := Prod.mk.inj hR
            obtain ⟨eu5, hR⟩ := Prod.mk.inj hR
            obtain ⟨eu7, hR⟩ := Prod.mk.inj hR
            have eu8 := hR
            replace hP : va_P (dC, dI) vwCl (fl [[(b1, .inl (cs 0, 8, .inl u1))], [(b2, .inl (cs 0, 24, .inl u2))], [(b3, .inl (cs 0, 48, .inl u3))], [(b4, .inl (cs 0, 48, .inl S4))], [(b5, .inl (cs 0, 40, .inl u5))], [(b6, .inl (cs 0, 32, .inl S6))], [(b7, .inl (cs 0, 6, .inl u7))], (w_X10 ad (0) cs en u8)]) H350 := by rw [← eu1, ← eu2, ← eu3, ← eu5, ← eu7, ← eu8]; exact hP
            replace hD : va_D A (fl [[(b1, .inl (cs 0, 8, .inl u1))], [(b2, .inl (cs 0, 24, .inl u2))], [(b3, .inl (cs 0, 48, .inl u3))], [(b4, .inl (cs 0, 48, .inl S4))], [(b5, .inl (cs 0, 40, .inl u5))], [(b6, .inl (cs 0, 32, .inl S6))], [(b7, .inl (cs 0, 6, .inl u7))], (w_X10 ad (0) cs en u8)]) := by rw [← eu1, ← eu2, ← eu3, ← eu5, ← eu7, ← eu8]; exact hD
            exact W.zret (ty := .boolean) hx hb hr (by decide) (fun t ht hW => ⟨⟨_, (), rfl, e9, by rw [ht]; exact hP, va_K.moved hW.alike hK, hD⟩, hS.F ht⟩) hS.2.2 dL_brings_366
        · replace hR := it_t hR c294
          refine lv_aload_n hx hb dL_brings_297 rfl (lv_at hl 2 rfl) ?_
          refine lv_iload hx hb dL_brings_298 (lv_at hl 1 rfl) ?_
          refine lv_iload hx hb dL_brings_300 (lv_at hl 0 rfl) ?_
          replace hR := bd_e hR
          obtain ⟨q302, gq302, hR⟩ := hR
          refine cm_Vi (As := [.int x276, .int x288]) (rest := []) (L := [[(b1, .inl (cs 0, 8, .inl S1))], [(b2, .inl (cs 0, 24, .inl S2))], [(b3, .inl (cs 0, 48, .inl S3))], [(b4, .inl (cs 0, 48, .inl S4))], [(b5, .inl (cs 0, 40, .inl S5))], [(b6, .inl (cs 0, 32, .inl S6))], [(b7, .inl (cs 0, 6, .inl S7))], (w_X10 ad (0) cs en S8)]) (L' := [[(b1, .inl (cs 0, 8, .inl S1))], [(b2, .inl (cs 0, 24, .inl S2))], [(b3, .inl (cs 0, 48, .inl S3))], [(b4, .inl (cs 0, 48, .inl S4))], [(b5, .inl (cs 0, 40, .inl S5))], [(b6, .inl (cs 0, 32, .inl S6))], [(b7, .inl (cs 0, 6, .inl S7))], (w_X10 ad (0) cs en q302.2)]) (Wc := [(w_X10 ad (0) cs en S8)]) (Wc' := [(w_X10 ad (0) cs en q302.2)]) (is := [7]) (js := [0, 1, 2, 3, 4, 5, 6]) ⟨hx, hb, hml, hown, hts⟩ (k_X10_van l dC dI cs ad en s.heap.size S8 x276 x288 q302.1 q302.2 gq302) (cwV 2 hts gL_brings_X10_van rfl rfl rfl cd_X10_van ⟨Nat.le_of_ble_eq_true rfl, Nat.le_of_ble_eq_true rfl⟩) hK hP hD hS hA (jx_7 (w_X10_fst ad 0 cs en _ _)) (jn_nd (is := [7]) hD rfl rfl) 7 8 rfl rfl rfl rfl rfl hl.1 (Nat.le_of_ble_eq_true rfl) dL_brings_302 ⟨Nat.le_of_ble_eq_true rfl, Nat.le_of_ble_eq_true rfl⟩ (fun H302 locs302 hP' hD' hS' => ?_)
          replace hS := hS'
          replace hP : va_P (dC, dI) vwCl (fl [[(b1, .inl (cs 0, 8, .inl S1))], [(b2, .inl (cs 0, 24, .inl S2))], [(b3, .inl (cs 0, 48, .inl S3))], [(b4, .inl (cs 0, 48, .inl S4))], [(b5, .inl (cs 0, 40, .inl S5))], [(b6, .inl (cs 0, 32, .inl S6))], [(b7, .inl (cs 0, 6, .inl S7))], (w_X10 ad (0) cs en q302.2)]) H302 := hP'
          replace hD : va_D A (fl [[(b1, .inl (cs 0, 8, .inl S1))], [(b2, .inl (cs 0, 24, .inl S2))], [(b3, .inl (cs 0, 48, .inl S3))], [(b4, .inl (cs 0, 48, .inl S4))], [(b5, .inl (cs 0, 40, .inl S5))], [(b6, .inl (cs 0, 32, .inl S6))], [(b7, .inl (cs 0, 6, .inl S7))], (w_X10 ad (0) cs en q302.2)]) := hD'
          clear hP' hD' hS'
          refine lv_bipush (v := (-3)) hx hb dL_brings_305 bp_m3 ?_
          refine lv_icmp_ne (tgt := 314) hx hb dL_brings_307 (by decide) (fun c307 => ?_) (fun c307 => ?_)
          · replace hR := it_f hR c307
            refine lv_iconst (v := 0) hx hb dL_brings_314 ic_0 ?_
            replace hR := Option.some.inj hR
            obtain ⟨e9, hR⟩ := Prod.mk.inj hR
            obtain ⟨eu1, hR⟩ := Prod.mk.inj hR
            obtain ⟨eu2, hR⟩ := Prod.mk.inj hR
            obtain ⟨eu3, hR⟩ := Prod.mk.inj hR
            obtain ⟨eu5, hR⟩ := Prod.mk.inj hR
            obtain ⟨eu7, hR⟩ := Prod.mk.inj hR
            have eu8 := hR
            replace hP : va_P (dC, dI) vwCl (fl [[(b1, .inl (cs 0, 8, .inl u1))], [(b2, .inl (cs 0, 24, .inl u2))], [(b3, .inl (cs 0, 48, .inl u3))], [(b4, .inl (cs 0, 48, .inl S4))], [(b5, .inl (cs 0, 40, .inl u5))], [(b6, .inl (cs 0, 32, .inl S6))], [(b7, .inl (cs 0, 6, .inl u7))], (w_X10 ad (0) cs en u8)]) H302 := by rw [← eu1, ← eu2, ← eu3, ← eu5, ← eu7, ← eu8]; exact hP
            replace hD : va_D A (fl [[(b1, .inl (cs 0, 8, .inl u1))], [(b2, .inl (cs 0, 24, .inl u2))], [(b3, .inl (cs 0, 48, .inl u3))], [(b4, .inl (cs 0, 48, .inl S4))], [(b5, .inl (cs 0, 40, .inl u5))], [(b6, .inl (cs 0, 32, .inl S6))], [(b7, .inl (cs 0, 6, .inl u7))], (w_X10 ad (0) cs en u8)]) := by rw [← eu1, ← eu2, ← eu3, ← eu5, ← eu7, ← eu8]; exact hD
            exact W.zret (ty := .boolean) hx hb hr (by decide) (fun t ht hW => ⟨⟨_, (), rfl, e9, by rw [ht]; exact hP, va_K.moved hW.alike hK, hD⟩, hS.F ht⟩) hS.2.2 dL_brings_315
          · replace hR := it_t hR c307
            refine lv_iconst (v := 1) hx hb dL_brings_310 ic_1 ?_
            refine lv_goto (tgt := 315) hx hb dL_brings_311 (by decide) ?_
            replace hR := Option.some.inj hR
            obtain ⟨e9, hR⟩ := Prod.mk.inj hR
            obtain ⟨eu1, hR⟩ := Prod.mk.inj hR
            obtain ⟨eu2, hR⟩ := Prod.mk.inj hR
            obtain ⟨eu3, hR⟩ := Prod.mk.inj hR
            obtain ⟨eu5, hR⟩ := Prod.mk.inj hR
            obtain ⟨eu7, hR⟩ := Prod.mk.inj hR
            have eu8 := hR
            replace hP : va_P (dC, dI) vwCl (fl [[(b1, .inl (cs 0, 8, .inl u1))], [(b2, .inl (cs 0, 24, .inl u2))], [(b3, .inl (cs 0, 48, .inl u3))], [(b4, .inl (cs 0, 48, .inl S4))], [(b5, .inl (cs 0, 40, .inl u5))], [(b6, .inl (cs 0, 32, .inl S6))], [(b7, .inl (cs 0, 6, .inl u7))], (w_X10 ad (0) cs en u8)]) H302 := by rw [← eu1, ← eu2, ← eu3, ← eu5, ← eu7, ← eu8]; exact hP
            replace hD : va_D A (fl [[(b1, .inl (cs 0, 8, .inl u1))], [(b2, .inl (cs 0, 24, .inl u2))], [(b3, .inl (cs 0, 48, .inl u3))], [(b4, .inl (cs 0, 48, .inl S4))], [(b5, .inl (cs 0, 40, .inl u5))], [(b6, .inl (cs 0, 32, .inl S6))], [(b7, .inl (cs 0, 6, .inl u7))], (w_X10 ad (0) cs en u8)]) := by rw [← eu1, ← eu2, ← eu3, ← eu5, ← eu7, ← eu8]; exact hD
            exact W.zret (ty := .boolean) hx hb hr (by decide) (fun t ht hW => ⟨⟨_, (), rfl, e9, by rw [ht]; exact hP, va_K.moved hW.alike hK, hD⟩, hS.F ht⟩) hS.2.2 dL_brings_315
      · replace hR := it_t hR c207
        refine lv_aload_n hx hb dL_brings_210 rfl (lv_at hl 1 rfl) ?_
        refine lv_iconst (v := 2) hx hb dL_brings_211 ic_2 ?_
        refine va_iald hx hb hK hP 0 0 rfl rfl vi_2_8 dL_brings_212 ?_
        refine lv_bipush (v := 8) hx hb dL_brings_213 bp_8 ?_
        refine lv_icmp_ne (tgt := 233) hx hb dL_brings_215 (by decide) (fun c215 => ?_) (fun c215 => ?_)
        · replace hR := it_f hR c215
          refine lv_aload hx hb dL_brings_233 (lv_at hl 5 rfl) ?_
          refine lv_iconst (v := 5) hx hb dL_brings_235 ic_5 ?_
          refine lv_aload_n hx hb dL_brings_236 rfl (lv_at hl 1 rfl) ?_
          refine lv_iconst (v := 2) hx hb dL_brings_237 ic_2 ?_
          refine va_iald hx hb hK hP 0 0 rfl rfl vi_2_8 dL_brings_238 ?_
          refine lv_imul hx hb dL_brings_239 ?_
          refine lv_iconst (v := 2) hx hb dL_brings_240 ic_2 ?_
          refine lv_iadd hx hb dL_brings_241 ?_
          refine lv_bipush (v := (-4)) hx hb dL_brings_242 bp_m4 ?_
          replace hR := gi_e hR
          obtain ⟨i244, hR⟩ := hR
          refine va_iast hx hb hK hP hD hS 4 0 rfl rfl i244 dL_brings_244 (fun H244 locs244 hP' hD' hS' => ?_)
          replace hS := hS'
          have hP' : va_P (dC, dI) vwCl (fl [[(b1, .inl (cs 0, 8, .inl S1))], [(b2, .inl (cs 0, 24, .inl S2))], [(b3, .inl (cs 0, 48, .inl S3))], [(b4, .inl (cs 0, 48, .inl S4))], [(b5, .inl (cs 0, 40, .inl (sU S5 (((5 : Int32) * (S1  (2 : Int32).toNatClampNeg)) + 2).toNatClampNeg (-4))))], [(b6, .inl (cs 0, 32, .inl S6))], [(b7, .inl (cs 0, 6, .inl S7))], (w_X10 ad (0) cs en S8)]) H244 := hP'
          have hD' : va_D A (fl [[(b1, .inl (cs 0, 8, .inl S1))], [(b2, .inl (cs 0, 24, .inl S2))], [(b3, .inl (cs 0, 48, .inl S3))], [(b4, .inl (cs 0, 48, .inl S4))], [(b5, .inl (cs 0, 40, .inl (sU S5 (((5 : Int32) * (S1  (2 : Int32).toNatClampNeg)) + 2).toNatClampNeg (-4))))], [(b6, .inl (cs 0, 32, .inl S6))], [(b7, .inl (cs 0, 6, .inl S7))], (w_X10 ad (0) cs en S8)]) := hD'
          replace hR := bn_e hR
          obtain ⟨S5_244, eS5_244, hR⟩ := hR
          replace hP : va_P (dC, dI) vwCl (fl [[(b1, .inl (cs 0, 8, .inl S1))], [(b2, .inl (cs 0, 24, .inl S2))], [(b3, .inl (cs 0, 48, .inl S3))], [(b4, .inl (cs 0, 48, .inl S4))], [(b5, .inl (cs 0, 40, .inl S5_244))], [(b6, .inl (cs 0, 32, .inl S6))], [(b7, .inl (cs 0, 6, .inl S7))], (w_X10 ad (0) cs en S8)]) H244 := by rw [eS5_244]; exact hP'
          replace hD : va_D A (fl [[(b1, .inl (cs 0, 8, .inl S1))], [(b2, .inl (cs 0, 24, .inl S2))], [(b3, .inl (cs 0, 48, .inl S3))], [(b4, .inl (cs 0, 48, .inl S4))], [(b5, .inl (cs 0, 40, .inl S5_244))], [(b6, .inl (cs 0, 32, .inl S6))], [(b7, .inl (cs 0, 6, .inl S7))], (w_X10 ad (0) cs en S8)]) := by rw [eS5_244]; exact hD'
          clear hP' hD' hS'
          refine lv_aload_n hx hb dL_brings_245 rfl (lv_at hl 1 rfl) ?_
          refine lv_iconst (v := 2) hx hb dL_brings_246 ic_2 ?_
          refine lv_dup2_11 hx hb dL_brings_247 rfl rfl ?_
          refine va_iald hx hb hK hP 0 0 rfl rfl vi_2_8 dL_brings_248 ?_
          refine lv_iconst (v := 1) hx hb dL_brings_249 ic_1 ?_
          refine lv_iadd hx hb dL_brings_250 ?_
          refine va_iast hx hb hK hP hD hS 0 0 rfl rfl vi_2_8 dL_brings_251 (fun H251 locs251 hP' hD' hS' => ?_)
          replace hS := hS'
          have hP' : va_P (dC, dI) vwCl (fl [[(b1, .inl (cs 0, 8, .inl (sU S1 (2 : Int32).toNatClampNeg ((S1  (2 : Int32).toNatClampNeg) + 1))))], [(b2, .inl (cs 0, 24, .inl S2))], [(b3, .inl (cs 0, 48, .inl S3))], [(b4, .inl (cs 0, 48, .inl S4))], [(b5, .inl (cs 0, 40, .inl S5_244))], [(b6, .inl (cs 0, 32, .inl S6))], [(b7, .inl (cs 0, 6, .inl S7))], (w_X10 ad (0) cs en S8)]) H251 := hP'
          have hD' : va_D A (fl [[(b1, .inl (cs 0, 8, .inl (sU S1 (2 : Int32).toNatClampNeg ((S1  (2 : Int32).toNatClampNeg) + 1))))], [(b2, .inl (cs 0, 24, .inl S2))], [(b3, .inl (cs 0, 48, .inl S3))], [(b4, .inl (cs 0, 48, .inl S4))], [(b5, .inl (cs 0, 40, .inl S5_244))], [(b6, .inl (cs 0, 32, .inl S6))], [(b7, .inl (cs 0, 6, .inl S7))], (w_X10 ad (0) cs en S8)]) := hD'
          replace hR := bn_e hR
          obtain ⟨S1_251, eS1_251, hR⟩ := hR
          replace hP : va_P (dC, dI) vwCl (fl [[(b1, .inl (cs 0, 8, .inl S1_251))], [(b2, .inl (cs 0, 24, .inl S2))], [(b3, .inl (cs 0, 48, .inl S3))], [(b4, .inl (cs 0, 48, .inl S4))], [(b5, .inl (cs 0, 40, .inl S5_244))], [(b6, .inl (cs 0, 32, .inl S6))], [(b7, .inl (cs 0, 6, .inl S7))], (w_X10 ad (0) cs en S8)]) H251 := by rw [eS1_251]; exact hP'
          replace hD : va_D A (fl [[(b1, .inl (cs 0, 8, .inl S1_251))], [(b2, .inl (cs 0, 24, .inl S2))], [(b3, .inl (cs 0, 48, .inl S3))], [(b4, .inl (cs 0, 48, .inl S4))], [(b5, .inl (cs 0, 40, .inl S5_244))], [(b6, .inl (cs 0, 32, .inl S6))], [(b7, .inl (cs 0, 6, .inl S7))], (w_X10 ad (0) cs en S8)]) := by rw [eS1_251]; exact hD'
          clear hP' hD' hS'
          refine lv_aload_n hx hb dL_brings_252 rfl (lv_at hl 0 rfl) ?_
          replace hR := bd_e hR
          obtain ⟨q253, gq253, hR⟩ := hR
          refine cm_Vi (As := []) (rest := []) (L := [[(b1, .inl (cs 0, 8, .inl S1_251))], [(b2, .inl (cs 0, 24, .inl S2))], [(b3, .inl (cs 0, 48, .inl S3))], [(b4, .inl (cs 0, 48, .inl S4))], [(b5, .inl (cs 0, 40, .inl S5_244))], [(b6, .inl (cs 0, 32, .inl S6))], [(b7, .inl (cs 0, 6, .inl S7))], (w_X10 ad (0) cs en S8)]) (L' := [[(b1, .inl (cs 0, 8, .inl S1_251))], [(b2, .inl (cs 0, 24, .inl S2))], [(b3, .inl (cs 0, 48, .inl S3))], [(b4, .inl (cs 0, 48, .inl S4))], [(b5, .inl (cs 0, 40, .inl S5_244))], [(b6, .inl (cs 0, 32, .inl S6))], [(b7, .inl (cs 0, 6, .inl S7))], (w_X10 ad (0) cs en q253.2)]) (Wc := [(w_X10 ad (0) cs en S8)]) (Wc' := [(w_X10 ad (0) cs en q253.2)]) (is := [7]) (js := [0, 1, 2, 3, 4, 5, 6]) ⟨hx, hb, hml, hown, hts⟩ (k_X10_rider l dC dI cs ad en H251.size S8 q253.1 q253.2 gq253) (cwV 0 hts gL_brings_X10_rider rfl rfl rfl cd_X10_rider ⟨Nat.le_of_ble_eq_true rfl, Nat.le_of_ble_eq_true rfl⟩) hK hP hD hS hA (jx_7 (w_X10_fst ad 0 cs en _ _)) (jn_nd (is := [7]) hD rfl rfl) 7 8 rfl rfl rfl rfl rfl hl.1 (Nat.le_of_ble_eq_true rfl) dL_brings_253 ⟨Nat.le_of_ble_eq_true rfl, Nat.le_of_ble_eq_true rfl⟩ (fun H253 locs253 hP' hD' hS' => ?_)
          replace hS := hS'
          replace hP : va_P (dC, dI) vwCl (fl [[(b1, .inl (cs 0, 8, .inl S1_251))], [(b2, .inl (cs 0, 24, .inl S2))], [(b3, .inl (cs 0, 48, .inl S3))], [(b4, .inl (cs 0, 48, .inl S4))], [(b5, .inl (cs 0, 40, .inl S5_244))], [(b6, .inl (cs 0, 32, .inl S6))], [(b7, .inl (cs 0, 6, .inl S7))], (w_X10 ad (0) cs en q253.2)]) H253 := hP'
          replace hD : va_D A (fl [[(b1, .inl (cs 0, 8, .inl S1_251))], [(b2, .inl (cs 0, 24, .inl S2))], [(b3, .inl (cs 0, 48, .inl S3))], [(b4, .inl (cs 0, 48, .inl S4))], [(b5, .inl (cs 0, 40, .inl S5_244))], [(b6, .inl (cs 0, 32, .inl S6))], [(b7, .inl (cs 0, 6, .inl S7))], (w_X10 ad (0) cs en q253.2)]) := hD'
          clear hP' hD' hS'
          refine lv_aload_n hx hb dL_brings_256 rfl (lv_at hl 1 rfl) ?_
          refine lv_iconst (v := 2) hx hb dL_brings_257 ic_2 ?_
          refine va_iald hx hb hK hP 0 0 rfl rfl vi_2_8 dL_brings_258 ?_
          refine lv_iconst (v := 1) hx hb dL_brings_259 ic_1 ?_
          refine lv_isub hx hb dL_brings_260 ?_
          refine lv_icmp_ne (tgt := 268) hx hb dL_brings_261 (by decide) (fun c261 => ?_) (fun c261 => ?_)
          · replace hR := it_f hR c261
            refine lv_iconst (v := 0) hx hb dL_brings_268 ic_0 ?_
            replace hR := Option.some.inj hR
            obtain ⟨e9, hR⟩ := Prod.mk.inj hR
            obtain ⟨eu1, hR⟩ := Prod.mk.inj hR
            obtain ⟨eu2, hR⟩ := Prod.mk.inj hR
            obtain ⟨eu3, hR⟩ := Prod.mk.inj hR
            obtain ⟨eu5, hR⟩ := Prod.mk.inj hR
            obtain ⟨eu7, hR⟩ := Prod.mk.inj hR
            have eu8 := hR
            replace hP : va_P (dC, dI) vwCl (fl [[(b1, .inl (cs 0, 8, .inl u1))], [(b2, .inl (cs 0, 24, .inl u2))], [(b3, .inl (cs 0, 48, .inl u3))], [(b4, .inl (cs 0, 48, .inl S4))], [(b5, .inl (cs 0, 40, .inl u5))], [(b6, .inl (cs 0, 32, .inl S6))], [(b7, .inl (cs 0, 6, .inl u7))], (w_X10 ad (0) cs en u8)]) H253 := by rw [← eu1, ← eu2, ← eu3, ← eu5, ← eu7, ← eu8]; exact hP
            replace hD : va_D A (fl [[(b1, .inl (cs 0, 8, .inl u1))], [(b2, .inl (cs 0, 24, .inl u2))], [(b3, .inl (cs 0, 48, .inl u3))], [(b4, .inl (cs 0, 48, .inl S4))], [(b5, .inl (cs 0, 40, .inl u5))], [(b6, .inl (cs 0, 32, .inl S6))], [(b7, .inl (cs 0, 6, .inl u7))], (w_X10 ad (0) cs en u8)]) := by rw [← eu1, ← eu2, ← eu3, ← eu5, ← eu7, ← eu8]; exact hD
            exact W.zret (ty := .boolean) hx hb hr (by decide) (fun t ht hW => ⟨⟨_, (), rfl, e9, by rw [ht]; exact hP, va_K.moved hW.alike hK, hD⟩, hS.F ht⟩) hS.2.2 dL_brings_269
          · replace hR := it_t hR c261
            refine lv_iconst (v := 1) hx hb dL_brings_264 ic_1 ?_
            refine lv_goto (tgt := 269) hx hb dL_brings_265 (by decide) ?_
            replace hR := Option.some.inj hR
            obtain ⟨e9, hR⟩ := Prod.mk.inj hR
            obtain ⟨eu1, hR⟩ := Prod.mk.inj hR
            obtain ⟨eu2, hR⟩ := Prod.mk.inj hR
            obtain ⟨eu3, hR⟩ := Prod.mk.inj hR
            obtain ⟨eu5, hR⟩ := Prod.mk.inj hR
            obtain ⟨eu7, hR⟩ := Prod.mk.inj hR
            have eu8 := hR
            replace hP : va_P (dC, dI) vwCl (fl [[(b1, .inl (cs 0, 8, .inl u1))], [(b2, .inl (cs 0, 24, .inl u2))], [(b3, .inl (cs 0, 48, .inl u3))], [(b4, .inl (cs 0, 48, .inl S4))], [(b5, .inl (cs 0, 40, .inl u5))], [(b6, .inl (cs 0, 32, .inl S6))], [(b7, .inl (cs 0, 6, .inl u7))], (w_X10 ad (0) cs en u8)]) H253 := by rw [← eu1, ← eu2, ← eu3, ← eu5, ← eu7, ← eu8]; exact hP
            replace hD : va_D A (fl [[(b1, .inl (cs 0, 8, .inl u1))], [(b2, .inl (cs 0, 24, .inl u2))], [(b3, .inl (cs 0, 48, .inl u3))], [(b4, .inl (cs 0, 48, .inl S4))], [(b5, .inl (cs 0, 40, .inl u5))], [(b6, .inl (cs 0, 32, .inl S6))], [(b7, .inl (cs 0, 6, .inl u7))], (w_X10 ad (0) cs en u8)]) := by rw [← eu1, ← eu2, ← eu3, ← eu5, ← eu7, ← eu8]; exact hD
            exact W.zret (ty := .boolean) hx hb hr (by decide) (fun t ht hW => ⟨⟨_, (), rfl, e9, by rw [ht]; exact hP, va_K.moved hW.alike hK, hD⟩, hS.F ht⟩) hS.2.2 dL_brings_269
        · replace hR := it_t hR c215
          refine lv_aload_n hx hb dL_brings_218 rfl (lv_at hl 0 rfl) ?_
          replace hR := bd_e hR
          obtain ⟨q219, gq219, hR⟩ := hR
          refine cm_Vi (As := []) (rest := []) (L := [[(b1, .inl (cs 0, 8, .inl S1))], [(b2, .inl (cs 0, 24, .inl S2))], [(b3, .inl (cs 0, 48, .inl S3))], [(b4, .inl (cs 0, 48, .inl S4))], [(b5, .inl (cs 0, 40, .inl S5))], [(b6, .inl (cs 0, 32, .inl S6))], [(b7, .inl (cs 0, 6, .inl S7))], (w_X10 ad (0) cs en S8)]) (L' := [[(b1, .inl (cs 0, 8, .inl S1))], [(b2, .inl (cs 0, 24, .inl S2))], [(b3, .inl (cs 0, 48, .inl S3))], [(b4, .inl (cs 0, 48, .inl S4))], [(b5, .inl (cs 0, 40, .inl S5))], [(b6, .inl (cs 0, 32, .inl S6))], [(b7, .inl (cs 0, 6, .inl S7))], (w_X10 ad (0) cs en q219.2)]) (Wc := [(w_X10 ad (0) cs en S8)]) (Wc' := [(w_X10 ad (0) cs en q219.2)]) (is := [7]) (js := [0, 1, 2, 3, 4, 5, 6]) ⟨hx, hb, hml, hown, hts⟩ (k_X10_rider l dC dI cs ad en s.heap.size S8 q219.1 q219.2 gq219) (cwV 0 hts gL_brings_X10_rider rfl rfl rfl cd_X10_rider ⟨Nat.le_of_ble_eq_true rfl, Nat.le_of_ble_eq_true rfl⟩) hK hP hD hS hA (jx_7 (w_X10_fst ad 0 cs en _ _)) (jn_nd (is := [7]) hD rfl rfl) 7 8 rfl rfl rfl rfl rfl hl.1 (Nat.le_of_ble_eq_true rfl) dL_brings_219 ⟨Nat.le_of_ble_eq_true rfl, Nat.le_of_ble_eq_true rfl⟩ (fun H219 locs219 hP' hD' hS' => ?_)
          replace hS := hS'
          replace hP : va_P (dC, dI) vwCl (fl [[(b1, .inl (cs 0, 8, .inl S1))], [(b2, .inl (cs 0, 24, .inl S2))], [(b3, .inl (cs 0, 48, .inl S3))], [(b4, .inl (cs 0, 48, .inl S4))], [(b5, .inl (cs 0, 40, .inl S5))], [(b6, .inl (cs 0, 32, .inl S6))], [(b7, .inl (cs 0, 6, .inl S7))], (w_X10 ad (0) cs en q219.2)]) H219 := hP'
          replace hD : va_D A (fl [[(b1, .inl (cs 0, 8, .inl S1))], [(b2, .inl (cs 0, 24, .inl S2))], [(b3, .inl (cs 0, 48, .inl S3))], [(b4, .inl (cs 0, 48, .inl S4))], [(b5, .inl (cs 0, 40, .inl S5))], [(b6, .inl (cs 0, 32, .inl S6))], [(b7, .inl (cs 0, 6, .inl S7))], (w_X10 ad (0) cs en q219.2)]) := hD'
          clear hP' hD' hS'
          refine lv_bipush (v := (-3)) hx hb dL_brings_222 bp_m3 ?_
          refine lv_icmp_ne (tgt := 231) hx hb dL_brings_224 (by decide) (fun c224 => ?_) (fun c224 => ?_)
          · replace hR := it_f hR c224
            refine lv_iconst (v := 0) hx hb dL_brings_231 ic_0 ?_
            replace hR := Option.some.inj hR
            obtain ⟨e9, hR⟩ := Prod.mk.inj hR
            obtain ⟨eu1, hR⟩ := Prod.mk.inj hR
            obtain ⟨eu2, hR⟩ := Prod.mk.inj hR
            obtain ⟨eu3, hR⟩ := Prod.mk.inj hR
            obtain ⟨eu5, hR⟩ := Prod.mk.inj hR
            obtain ⟨eu7, hR⟩ := Prod.mk.inj hR
            have eu8 := hR
            replace hP : va_P (dC, dI) vwCl (fl [[(b1, .inl (cs 0, 8, .inl u1))], [(b2, .inl (cs 0, 24, .inl u2))], [(b3, .inl (cs 0, 48, .inl u3))], [(b4, .inl (cs 0, 48, .inl S4))], [(b5, .inl (cs 0, 40, .inl u5))], [(b6, .inl (cs 0, 32, .inl S6))], [(b7, .inl (cs 0, 6, .inl u7))], (w_X10 ad (0) cs en u8)]) H219 := by rw [← eu1, ← eu2, ← eu3, ← eu5, ← eu7, ← eu8]; exact hP
            replace hD : va_D A (fl [[(b1, .inl (cs 0, 8, .inl u1))], [(b2, .inl (cs 0, 24, .inl u2))], [(b3, .inl (cs 0, 48, .inl u3))], [(b4, .inl (cs 0, 48, .inl S4))], [(b5, .inl (cs 0, 40, .inl u5))], [(b6, .inl (cs 0, 32, .inl S6))], [(b7, .inl (cs 0, 6, .inl u7))], (w_X10 ad (0) cs en u8)]) := by rw [← eu1, ← eu2, ← eu3, ← eu5, ← eu7, ← eu8]; exact hD
            exact W.zret (ty := .boolean) hx hb hr (by decide) (fun t ht hW => ⟨⟨_, (), rfl, e9, by rw [ht]; exact hP, va_K.moved hW.alike hK, hD⟩, hS.F ht⟩) hS.2.2 dL_brings_232
          · replace hR := it_t hR c224
            refine lv_iconst (v := 1) hx hb dL_brings_227 ic_1 ?_
            refine lv_goto (tgt := 232) hx hb dL_brings_228 (by decide) ?_
            replace hR := Option.some.inj hR
            obtain ⟨e9, hR⟩ := Prod.mk.inj hR
            obtain ⟨eu1, hR⟩ := Prod.mk.inj hR
            obtain ⟨eu2, hR⟩ := Prod.mk.inj hR
            obtain ⟨eu3, hR⟩ := Prod.mk.inj hR
            obtain ⟨eu5, hR⟩ := Prod.mk.inj hR
            obtain ⟨eu7, hR⟩ := Prod.mk.inj hR
            have eu8 := hR
            replace hP : va_P (dC, dI) vwCl (fl [[(b1, .inl (cs 0, 8, .inl u1))], [(b2, .inl (cs 0, 24, .inl u2))], [(b3, .inl (cs 0, 48, .inl u3))], [(b4, .inl (cs 0, 48, .inl S4))], [(b5, .inl (cs 0, 40, .inl u5))], [(b6, .inl (cs 0, 32, .inl S6))], [(b7, .inl (cs 0, 6, .inl u7))], (w_X10 ad (0) cs en u8)]) H219 := by rw [← eu1, ← eu2, ← eu3, ← eu5, ← eu7, ← eu8]; exact hP
            replace hD : va_D A (fl [[(b1, .inl (cs 0, 8, .inl u1))], [(b2, .inl (cs 0, 24, .inl u2))], [(b3, .inl (cs 0, 48, .inl u3))], [(b4, .inl (cs 0, 48, .inl S4))], [(b5, .inl (cs 0, 40, .inl u5))], [(b6, .inl (cs 0, 32, .inl S6))], [(b7, .inl (cs 0, 6, .inl u7))], (w_X10 ad (0) cs en u8)]) := by rw [← eu1, ← eu2, ← eu3, ← eu5, ← eu7, ← eu8]; exact hD
            exact W.zret (ty := .boolean) hx hb hr (by decide) (fun t ht hW => ⟨⟨_, (), rfl, e9, by rw [ht]; exact hP, va_K.moved hW.alike hK, hD⟩, hS.F ht⟩) hS.2.2 dL_brings_232
    · replace hR := it_t hR c103
      refine lv_iload hx hb dL_brings_106 (lv_at hl 9 rfl) ?_
      refine lv_aload_n hx hb dL_brings_108 rfl (lv_at hl 1 rfl) ?_
      refine lv_iconst (v := 0) hx hb dL_brings_109 ic_0 ?_
      refine va_iald hx hb hK hP 0 0 rfl rfl vi_0_8 dL_brings_110 ?_
      replace hR := nz_e hR
      obtain ⟨z111, hR⟩ := hR
      refine lv_irem hx hb dL_brings_111 z111 ?_
      replace hR := bn_e hR
      obtain ⟨x112, ex112, hR⟩ := hR
      refine tp_g ex112 ?_
      refine lv_istore (lv' := [(10, .int x112), (0, .ref (ad 0)), (1, .ref b1), (2, .ref b2), (3, .ref b3), (4, .ref b4), (5, .ref b5), (6, .ref b6), (7, .ref b7), (8, .int p8), (9, .int p9)]) hx hb dL_brings_112 hl (Nat.le_of_ble_eq_true rfl) rfl (fun ls hl => ?_)
      refine lv_aload_n hx hb dL_brings_114 rfl (lv_at hl 2 rfl) ?_
      refine lv_aload_n hx hb dL_brings_115 rfl (lv_at hl 3 rfl) ?_
      refine lv_aload_n hx hb dL_brings_116 rfl (lv_at hl 4 rfl) ?_
      refine lv_iload hx hb dL_brings_117 (lv_at hl 0 rfl) ?_
      replace hR := bd_e hR
      obtain ⟨q119, gq119, hR⟩ := hR
      refine cm_Si (As := [.ref b1, .ref b2, .ref b3, .int x112]) (rest := []) (L := [[(b1, .inl (cs 0, 8, .inl S1))], [(b2, .inl (cs 0, 24, .inl S2))], [(b3, .inl (cs 0, 48, .inl S3))], [(b4, .inl (cs 0, 48, .inl S4))], [(b5, .inl (cs 0, 40, .inl S5))], [(b6, .inl (cs 0, 32, .inl S6))], [(b7, .inl (cs 0, 6, .inl S7))], (w_X10 ad (0) cs en S8)]) (L' := [[(b1, .inl (cs 0, 8, .inl S1))], [(b2, .inl (cs 0, 24, .inl S2))], [(b3, .inl (cs 0, 48, .inl S3))], [(b4, .inl (cs 0, 48, .inl S4))], [(b5, .inl (cs 0, 40, .inl S5))], [(b6, .inl (cs 0, 32, .inl S6))], [(b7, .inl (cs 0, 6, .inl S7))], (w_X10 ad (0) cs en S8)]) (Wc := [[(b1, .inl (cs 0, 8, .inl S1))], [(b2, .inl (cs 0, 24, .inl S2))], [(b3, .inl (cs 0, 48, .inl S3))]]) (Wc' := [[(b1, .inl (cs 0, 8, .inl S1))], [(b2, .inl (cs 0, 24, .inl S2))], [(b3, .inl (cs 0, 48, .inl S3))]]) (is := [0, 1, 2]) (js := [3, 4, 5, 6, 7]) ⟨hx, hb, hml, hown, hts⟩ (k_L_free l dC dI cs ad (b1) (b2) (b3) s.heap.size S1 S2 S3 x112 q119 gq119) (va_cwS 4 hts gL_brings_L_free rfl rfl rfl cd_L_free.2 ⟨Nat.le_of_ble_eq_true rfl, Nat.le_of_ble_eq_true rfl⟩) hK hP hD hS hA ⟨rfl, rfl, rfl, rfl, rfl, rfl⟩ (jn_nd (is := [0, 1, 2]) hD rfl rfl) rfl rfl hl.1 (Nat.le_of_ble_eq_true rfl) dL_brings_119 ⟨Nat.le_of_ble_eq_true rfl, Nat.le_of_ble_eq_true rfl⟩ (fun H119 locs119 hP' hD' hS' => ?_)
      replace hS := hS'
      replace hP : va_P (dC, dI) vwCl (fl [[(b1, .inl (cs 0, 8, .inl S1))], [(b2, .inl (cs 0, 24, .inl S2))], [(b3, .inl (cs 0, 48, .inl S3))], [(b4, .inl (cs 0, 48, .inl S4))], [(b5, .inl (cs 0, 40, .inl S5))], [(b6, .inl (cs 0, 32, .inl S6))], [(b7, .inl (cs 0, 6, .inl S7))], (w_X10 ad (0) cs en S8)]) H119 := hP'
      replace hD : va_D A (fl [[(b1, .inl (cs 0, 8, .inl S1))], [(b2, .inl (cs 0, 24, .inl S2))], [(b3, .inl (cs 0, 48, .inl S3))], [(b4, .inl (cs 0, 48, .inl S4))], [(b5, .inl (cs 0, 40, .inl S5))], [(b6, .inl (cs 0, 32, .inl S6))], [(b7, .inl (cs 0, 6, .inl S7))], (w_X10 ad (0) cs en S8)]) := hD'
      clear hP' hD' hS'
      refine lv_if_eq (tgt := 133) hx hb dL_brings_122 (by decide) (fun c122 => ?_) (fun c122 => ?_)
      · replace hR := it_t hR c122
        exact hB133 S1 S2 S3 S5 S7 S8 x112 H119 _ ls hR hP hD hS (lv_sub hl [1, 2, 3, 4, 0] rfl)
      · replace hR := it_f hR c122
        refine lv_aload_n hx hb dL_brings_125 rfl (lv_at hl 2 rfl) ?_
        refine lv_iconst (v := 1) hx hb dL_brings_126 ic_1 ?_
        refine va_iald hx hb hK hP 0 0 rfl rfl vi_1_8 dL_brings_127 ?_
        refine lv_bipush (v := 16) hx hb dL_brings_128 bp_16 ?_
        refine lv_icmp_ne (tgt := 166) hx hb dL_brings_130 (by decide) (fun c130 => ?_) (fun c130 => ?_)
        · replace hR := it_f hR c130
          refine lv_aload_n hx hb dL_brings_166 rfl (lv_at hl 4 rfl) ?_
          refine lv_iconst (v := 3) hx hb dL_brings_167 ic_3 ?_
          refine lv_aload_n hx hb dL_brings_168 rfl (lv_at hl 2 rfl) ?_
          refine lv_iconst (v := 1) hx hb dL_brings_169 ic_1 ?_
          refine va_iald hx hb hK hP 0 0 rfl rfl vi_1_8 dL_brings_170 ?_
          refine lv_imul hx hb dL_brings_171 ?_
          refine lv_iconst (v := 1) hx hb dL_brings_172 ic_1 ?_
          refine lv_iadd hx hb dL_brings_173 ?_
          refine lv_iload hx hb dL_brings_174 (lv_at hl 0 rfl) ?_
          replace hR := gi_e hR
          obtain ⟨i176, hR⟩ := hR
          refine va_iast hx hb hK hP hD hS 2 0 rfl rfl i176 dL_brings_176 (fun H176 locs176 hP' hD' hS' => ?_)
          replace hS := hS'
          have hP' : va_P (dC, dI) vwCl (fl [[(b1, .inl (cs 0, 8, .inl S1))], [(b2, .inl (cs 0, 24, .inl S2))], [(b3, .inl (cs 0, 48, .inl (sU S3 (((3 : Int32) * (S1  (1 : Int32).toNatClampNeg)) + 1).toNatClampNeg x112)))], [(b4, .inl (cs 0, 48, .inl S4))], [(b5, .inl (cs 0, 40, .inl S5))], [(b6, .inl (cs 0, 32, .inl S6))], [(b7, .inl (cs 0, 6, .inl S7))], (w_X10 ad (0) cs en S8)]) H176 := hP'
          have hD' : va_D A (fl [[(b1, .inl (cs 0, 8, .inl S1))], [(b2, .inl (cs 0, 24, .inl S2))], [(b3, .inl (cs 0, 48, .inl (sU S3 (((3 : Int32) * (S1  (1 : Int32).toNatClampNeg)) + 1).toNatClampNeg x112)))], [(b4, .inl (cs 0, 48, .inl S4))], [(b5, .inl (cs 0, 40, .inl S5))], [(b6, .inl (cs 0, 32, .inl S6))], [(b7, .inl (cs 0, 6, .inl S7))], (w_X10 ad (0) cs en S8)]) := hD'
          replace hR := bn_e hR
          obtain ⟨S3_176, eS3_176, hR⟩ := hR
          replace hP : va_P (dC, dI) vwCl (fl [[(b1, .inl (cs 0, 8, .inl S1))], [(b2, .inl (cs 0, 24, .inl S2))], [(b3, .inl (cs 0, 48, .inl S3_176))], [(b4, .inl (cs 0, 48, .inl S4))], [(b5, .inl (cs 0, 40, .inl S5))], [(b6, .inl (cs 0, 32, .inl S6))], [(b7, .inl (cs 0, 6, .inl S7))], (w_X10 ad (0) cs en S8)]) H176 := by rw [eS3_176]; exact hP'
          replace hD : va_D A (fl [[(b1, .inl (cs 0, 8, .inl S1))], [(b2, .inl (cs 0, 24, .inl S2))], [(b3, .inl (cs 0, 48, .inl S3_176))], [(b4, .inl (cs 0, 48, .inl S4))], [(b5, .inl (cs 0, 40, .inl S5))], [(b6, .inl (cs 0, 32, .inl S6))], [(b7, .inl (cs 0, 6, .inl S7))], (w_X10 ad (0) cs en S8)]) := by rw [eS3_176]; exact hD'
          clear hP' hD' hS'
          refine lv_aload_n hx hb dL_brings_177 rfl (lv_at hl 2 rfl) ?_
          refine lv_iconst (v := 1) hx hb dL_brings_178 ic_1 ?_
          refine lv_dup2_11 hx hb dL_brings_179 rfl rfl ?_
          refine va_iald hx hb hK hP 0 0 rfl rfl vi_1_8 dL_brings_180 ?_
          refine lv_iconst (v := 1) hx hb dL_brings_181 ic_1 ?_
          refine lv_iadd hx hb dL_brings_182 ?_
          refine va_iast hx hb hK hP hD hS 0 0 rfl rfl vi_1_8 dL_brings_183 (fun H183 locs183 hP' hD' hS' => ?_)
          replace hS := hS'
          have hP' : va_P (dC, dI) vwCl (fl [[(b1, .inl (cs 0, 8, .inl (sU S1 (1 : Int32).toNatClampNeg ((S1  (1 : Int32).toNatClampNeg) + 1))))], [(b2, .inl (cs 0, 24, .inl S2))], [(b3, .inl (cs 0, 48, .inl S3_176))], [(b4, .inl (cs 0, 48, .inl S4))], [(b5, .inl (cs 0, 40, .inl S5))], [(b6, .inl (cs 0, 32, .inl S6))], [(b7, .inl (cs 0, 6, .inl S7))], (w_X10 ad (0) cs en S8)]) H183 := hP'
          have hD' : va_D A (fl [[(b1, .inl (cs 0, 8, .inl (sU S1 (1 : Int32).toNatClampNeg ((S1  (1 : Int32).toNatClampNeg) + 1))))], [(b2, .inl (cs 0, 24, .inl S2))], [(b3, .inl (cs 0, 48, .inl S3_176))], [(b4, .inl (cs 0, 48, .inl S4))], [(b5, .inl (cs 0, 40, .inl S5))], [(b6, .inl (cs 0, 32, .inl S6))], [(b7, .inl (cs 0, 6, .inl S7))], (w_X10 ad (0) cs en S8)]) := hD'
          replace hR := bn_e hR
          obtain ⟨S1_183, eS1_183, hR⟩ := hR
          replace hP : va_P (dC, dI) vwCl (fl [[(b1, .inl (cs 0, 8, .inl S1_183))], [(b2, .inl (cs 0, 24, .inl S2))], [(b3, .inl (cs 0, 48, .inl S3_176))], [(b4, .inl (cs 0, 48, .inl S4))], [(b5, .inl (cs 0, 40, .inl S5))], [(b6, .inl (cs 0, 32, .inl S6))], [(b7, .inl (cs 0, 6, .inl S7))], (w_X10 ad (0) cs en S8)]) H183 := by rw [eS1_183]; exact hP'
          replace hD : va_D A (fl [[(b1, .inl (cs 0, 8, .inl S1_183))], [(b2, .inl (cs 0, 24, .inl S2))], [(b3, .inl (cs 0, 48, .inl S3_176))], [(b4, .inl (cs 0, 48, .inl S4))], [(b5, .inl (cs 0, 40, .inl S5))], [(b6, .inl (cs 0, 32, .inl S6))], [(b7, .inl (cs 0, 6, .inl S7))], (w_X10 ad (0) cs en S8)]) := by rw [eS1_183]; exact hD'
          clear hP' hD' hS'
          refine lv_aload_n hx hb dL_brings_184 rfl (lv_at hl 1 rfl) ?_
          refine lv_iload hx hb dL_brings_185 (lv_at hl 0 rfl) ?_
          replace hR := bd_e hR
          obtain ⟨q187, gq187, hR⟩ := hR
          refine cm_Vi (As := [.int x112]) (rest := []) (L := [[(b1, .inl (cs 0, 8, .inl S1_183))], [(b2, .inl (cs 0, 24, .inl S2))], [(b3, .inl (cs 0, 48, .inl S3_176))], [(b4, .inl (cs 0, 48, .inl S4))], [(b5, .inl (cs 0, 40, .inl S5))], [(b6, .inl (cs 0, 32, .inl S6))], [(b7, .inl (cs 0, 6, .inl S7))], (w_X10 ad (0) cs en S8)]) (L' := [[(b1, .inl (cs 0, 8, .inl S1_183))], [(b2, .inl (cs 0, 24, .inl S2))], [(b3, .inl (cs 0, 48, .inl S3_176))], [(b4, .inl (cs 0, 48, .inl S4))], [(b5, .inl (cs 0, 40, .inl S5))], [(b6, .inl (cs 0, 32, .inl S6))], [(b7, .inl (cs 0, 6, .inl S7))], (w_X10 ad (0) cs en q187.2)]) (Wc := [(w_X10 ad (0) cs en S8)]) (Wc' := [(w_X10 ad (0) cs en q187.2)]) (is := [7]) (js := [0, 1, 2, 3, 4, 5, 6]) ⟨hx, hb, hml, hown, hts⟩ (k_X10_bicycle l dC dI cs ad en H183.size S8 x112 q187.1 q187.2 gq187) (cwV 1 hts gL_brings_X10_bicycle rfl rfl rfl cd_X10_bicycle ⟨Nat.le_of_ble_eq_true rfl, Nat.le_of_ble_eq_true rfl⟩) hK hP hD hS hA (jx_7 (w_X10_fst ad 0 cs en _ _)) (jn_nd (is := [7]) hD rfl rfl) 7 8 rfl rfl rfl rfl rfl hl.1 (Nat.le_of_ble_eq_true rfl) dL_brings_187 ⟨Nat.le_of_ble_eq_true rfl, Nat.le_of_ble_eq_true rfl⟩ (fun H187 locs187 hP' hD' hS' => ?_)
          replace hS := hS'
          replace hP : va_P (dC, dI) vwCl (fl [[(b1, .inl (cs 0, 8, .inl S1_183))], [(b2, .inl (cs 0, 24, .inl S2))], [(b3, .inl (cs 0, 48, .inl S3_176))], [(b4, .inl (cs 0, 48, .inl S4))], [(b5, .inl (cs 0, 40, .inl S5))], [(b6, .inl (cs 0, 32, .inl S6))], [(b7, .inl (cs 0, 6, .inl S7))], (w_X10 ad (0) cs en q187.2)]) H187 := hP'
          replace hD : va_D A (fl [[(b1, .inl (cs 0, 8, .inl S1_183))], [(b2, .inl (cs 0, 24, .inl S2))], [(b3, .inl (cs 0, 48, .inl S3_176))], [(b4, .inl (cs 0, 48, .inl S4))], [(b5, .inl (cs 0, 40, .inl S5))], [(b6, .inl (cs 0, 32, .inl S6))], [(b7, .inl (cs 0, 6, .inl S7))], (w_X10 ad (0) cs en q187.2)]) := hD'
          clear hP' hD' hS'
          refine lv_aload_n hx hb dL_brings_190 rfl (lv_at hl 2 rfl) ?_
          refine lv_iconst (v := 1) hx hb dL_brings_191 ic_1 ?_
          refine va_iald hx hb hK hP 0 0 rfl rfl vi_1_8 dL_brings_192 ?_
          refine lv_iconst (v := 1) hx hb dL_brings_193 ic_1 ?_
          refine lv_isub hx hb dL_brings_194 ?_
          refine lv_icmp_ne (tgt := 202) hx hb dL_brings_195 (by decide) (fun c195 => ?_) (fun c195 => ?_)
          · replace hR := it_f hR c195
            refine lv_iconst (v := 0) hx hb dL_brings_202 ic_0 ?_
            replace hR := Option.some.inj hR
            obtain ⟨e9, hR⟩ := Prod.mk.inj hR
            obtain ⟨eu1, hR⟩ := Prod.mk.inj hR
            obtain ⟨eu2, hR⟩ := Prod.mk.inj hR
            obtain ⟨eu3, hR⟩ := Prod.mk.inj hR
            obtain ⟨eu5, hR⟩ := Prod.mk.inj hR
            obtain ⟨eu7, hR⟩ := Prod.mk.inj hR
            have eu8 := hR
            replace hP : va_P (dC, dI) vwCl (fl [[(b1, .inl (cs 0, 8, .inl u1))], [(b2, .inl (cs 0, 24, .inl u2))], [(b3, .inl (cs 0, 48, .inl u3))], [(b4, .inl (cs 0, 48, .inl S4))], [(b5, .inl (cs 0, 40, .inl u5))], [(b6, .inl (cs 0, 32, .inl S6))], [(b7, .inl (cs 0, 6, .inl u7))], (w_X10 ad (0) cs en u8)]) H187 := by rw [← eu1, ← eu2, ← eu3, ← eu5, ← eu7, ← eu8]; exact hP
            replace hD : va_D A (fl [[(b1, .inl (cs 0, 8, .inl u1))], [(b2, .inl (cs 0, 24, .inl u2))], [(b3, .inl (cs 0, 48, .inl u3))], [(b4, .inl (cs 0, 48, .inl S4))], [(b5, .inl (cs 0, 40, .inl u5))], [(b6, .inl (cs 0, 32, .inl S6))], [(b7, .inl (cs 0, 6, .inl u7))], (w_X10 ad (0) cs en u8)]) := by rw [← eu1, ← eu2, ← eu3, ← eu5, ← eu7, ← eu8]; exact hD
            exact W.zret (ty := .boolean) hx hb hr (by decide) (fun t ht hW => ⟨⟨_, (), rfl, e9, by rw [ht]; exact hP, va_K.moved hW.alike hK, hD⟩, hS.F ht⟩) hS.2.2 dL_brings_203
          · replace hR := it_t hR c195
            refine lv_iconst (v := 1) hx hb dL_brings_198 ic_1 ?_
            refine lv_goto (tgt := 203) hx hb dL_brings_199 (by decide) ?_
            replace hR := Option.some.inj hR
            obtain ⟨e9, hR⟩ := Prod.mk.inj hR
            obtain ⟨eu1, hR⟩ := Prod.mk.inj hR
            obtain ⟨eu2, hR⟩ := Prod.mk.inj hR
            obtain ⟨eu3, hR⟩ := Prod.mk.inj hR
            obtain ⟨eu5, hR⟩ := Prod.mk.inj hR
            obtain ⟨eu7, hR⟩ := Prod.mk.inj hR
            have eu8 := hR
            replace hP : va_P (dC, dI) vwCl (fl [[(b1, .inl (cs 0, 8, .inl u1))], [(b2, .inl (cs 0, 24, .inl u2))], [(b3, .inl (cs 0, 48, .inl u3))], [(b4, .inl (cs 0, 48, .inl S4))], [(b5, .inl (cs 0, 40, .inl u5))], [(b6, .inl (cs 0, 32, .inl S6))], [(b7, .inl (cs 0, 6, .inl u7))], (w_X10 ad (0) cs en u8)]) H187 := by rw [← eu1, ← eu2, ← eu3, ← eu5, ← eu7, ← eu8]; exact hP
            replace hD : va_D A (fl [[(b1, .inl (cs 0, 8, .inl u1))], [(b2, .inl (cs 0, 24, .inl u2))], [(b3, .inl (cs 0, 48, .inl u3))], [(b4, .inl (cs 0, 48, .inl S4))], [(b5, .inl (cs 0, 40, .inl u5))], [(b6, .inl (cs 0, 32, .inl S6))], [(b7, .inl (cs 0, 6, .inl u7))], (w_X10 ad (0) cs en u8)]) := by rw [← eu1, ← eu2, ← eu3, ← eu5, ← eu7, ← eu8]; exact hD
            exact W.zret (ty := .boolean) hx hb hr (by decide) (fun t ht hW => ⟨⟨_, (), rfl, e9, by rw [ht]; exact hP, va_K.moved hW.alike hK, hD⟩, hS.F ht⟩) hS.2.2 dL_brings_203
        · replace hR := it_t hR c130
          exact hB133 S1 S2 S3 S5 S7 S8 x112 H119 _ ls hR hP hD hS (lv_sub hl [1, 2, 3, 4, 0] rfl)
  · replace hR := it_t hR c2
    refine lv_iload hx hb dL_brings_5 (lv_at hl 9 rfl) ?_
    refine lv_bipush (v := 100) hx hb dL_brings_7 bp_100 ?_
    refine lv_irem hx hb dL_brings_9 (by decide) ?_
    refine lv_istore (lv' := [(10, .int (p9 - p9 / 100 * 100)), (0, .ref (ad 0)), (1, .ref b1), (2, .ref b2), (3, .ref b3), (4, .ref b4), (5, .ref b5), (6, .ref b6), (7, .ref b7), (8, .int p8), (9, .int p9)]) hx hb dL_brings_10 hl (Nat.le_of_ble_eq_true rfl) rfl (fun ls hl => ?_)
    refine lv_iconst (v := 1) hx hb dL_brings_12 ic_1 ?_
    refine lv_iload hx hb dL_brings_13 (lv_at hl 10 rfl) ?_
    refine lv_bipush (v := 100) hx hb dL_brings_15 bp_100 ?_
    refine lv_idiv hx hb dL_brings_17 (by decide) ?_
    refine lv_bipush (v := 8) hx hb dL_brings_18 bp_8 ?_
    refine lv_irem hx hb dL_brings_20 (by decide) ?_
    refine lv_iadd hx hb dL_brings_21 ?_
    replace hR := bn_e hR
    obtain ⟨x22, ex22, hR⟩ := hR
    refine tp_g ex22 ?_
    refine lv_istore (lv' := [(11, .int x22), (10, .int (p9 - p9 / 100 * 100)), (0, .ref (ad 0)), (1, .ref b1), (2, .ref b2), (3, .ref b3), (4, .ref b4), (5, .ref b5), (6, .ref b6), (7, .ref b7), (8, .int p8), (9, .int p9)]) hx hb dL_brings_22 hl (Nat.le_of_ble_eq_true rfl) rfl (fun ls hl => ?_)
    refine lv_aload_n hx hb dL_brings_24 rfl (lv_at hl 3 rfl) ?_
    refine lv_iconst (v := 0) hx hb dL_brings_25 ic_0 ?_
    refine va_iald hx hb hK hP 0 0 rfl rfl vi_0_8 dL_brings_26 ?_
    refine lv_bipush (v := 6) hx hb dL_brings_27 bp_6 ?_
    refine lv_icmp_ne (tgt := 51) hx hb dL_brings_29 (by decide) (fun c29 => ?_) (fun c29 => ?_)
    · replace hR := it_f hR c29
      refine lv_aload_n hx hb dL_brings_51 rfl (lv_at hl 4 rfl) ?_
      refine lv_iconst (v := 4) hx hb dL_brings_52 ic_4 ?_
      refine lv_aload_n hx hb dL_brings_53 rfl (lv_at hl 3 rfl) ?_
      refine lv_iconst (v := 0) hx hb dL_brings_54 ic_0 ?_
      refine va_iald hx hb hK hP 0 0 rfl rfl vi_0_8 dL_brings_55 ?_
      refine lv_imul hx hb dL_brings_56 ?_
      refine lv_iload hx hb dL_brings_57 (lv_at hl 1 rfl) ?_
      replace hR := gi_e hR
      obtain ⟨i59, hR⟩ := hR
      refine va_iast hx hb hK hP hD hS 1 0 rfl rfl i59 dL_brings_59 (fun H59 locs59 hP' hD' hS' => ?_)
      replace hS := hS'
      have hP' : va_P (dC, dI) vwCl (fl [[(b1, .inl (cs 0, 8, .inl S1))], [(b2, .inl (cs 0, 24, .inl (sU S2 ((4 : Int32) * (S1  (0 : Int32).toNatClampNeg)).toNatClampNeg (p9 - p9 / 100 * 100))))], [(b3, .inl (cs 0, 48, .inl S3))], [(b4, .inl (cs 0, 48, .inl S4))], [(b5, .inl (cs 0, 40, .inl S5))], [(b6, .inl (cs 0, 32, .inl S6))], [(b7, .inl (cs 0, 6, .inl S7))], (w_X10 ad (0) cs en S8)]) H59 := hP'
      have hD' : va_D A (fl [[(b1, .inl (cs 0, 8, .inl S1))], [(b2, .inl (cs 0, 24, .inl (sU S2 ((4 : Int32) * (S1  (0 : Int32).toNatClampNeg)).toNatClampNeg (p9 - p9 / 100 * 100))))], [(b3, .inl (cs 0, 48, .inl S3))], [(b4, .inl (cs 0, 48, .inl S4))], [(b5, .inl (cs 0, 40, .inl S5))], [(b6, .inl (cs 0, 32, .inl S6))], [(b7, .inl (cs 0, 6, .inl S7))], (w_X10 ad (0) cs en S8)]) := hD'
      replace hR := bn_e hR
      obtain ⟨S2_59, eS2_59, hR⟩ := hR
      replace hP : va_P (dC, dI) vwCl (fl [[(b1, .inl (cs 0, 8, .inl S1))], [(b2, .inl (cs 0, 24, .inl S2_59))], [(b3, .inl (cs 0, 48, .inl S3))], [(b4, .inl (cs 0, 48, .inl S4))], [(b5, .inl (cs 0, 40, .inl S5))], [(b6, .inl (cs 0, 32, .inl S6))], [(b7, .inl (cs 0, 6, .inl S7))], (w_X10 ad (0) cs en S8)]) H59 := by rw [eS2_59]; exact hP'
      replace hD : va_D A (fl [[(b1, .inl (cs 0, 8, .inl S1))], [(b2, .inl (cs 0, 24, .inl S2_59))], [(b3, .inl (cs 0, 48, .inl S3))], [(b4, .inl (cs 0, 48, .inl S4))], [(b5, .inl (cs 0, 40, .inl S5))], [(b6, .inl (cs 0, 32, .inl S6))], [(b7, .inl (cs 0, 6, .inl S7))], (w_X10 ad (0) cs en S8)]) := by rw [eS2_59]; exact hD'
      clear hP' hD' hS'
      refine lv_aload_n hx hb dL_brings_60 rfl (lv_at hl 4 rfl) ?_
      refine lv_iconst (v := 4) hx hb dL_brings_61 ic_4 ?_
      refine lv_aload_n hx hb dL_brings_62 rfl (lv_at hl 3 rfl) ?_
      refine lv_iconst (v := 0) hx hb dL_brings_63 ic_0 ?_
      refine va_iald hx hb hK hP 0 0 rfl rfl vi_0_8 dL_brings_64 ?_
      refine lv_imul hx hb dL_brings_65 ?_
      refine lv_iconst (v := 1) hx hb dL_brings_66 ic_1 ?_
      refine lv_iadd hx hb dL_brings_67 ?_
      refine lv_iload hx hb dL_brings_68 (lv_at hl 0 rfl) ?_
      replace hR := gi_e hR
      obtain ⟨i70, hR⟩ := hR
      refine va_iast hx hb hK hP hD hS 1 0 rfl rfl i70 dL_brings_70 (fun H70 locs70 hP' hD' hS' => ?_)
      replace hS := hS'
      have hP' : va_P (dC, dI) vwCl (fl [[(b1, .inl (cs 0, 8, .inl S1))], [(b2, .inl (cs 0, 24, .inl (sU S2_59 (((4 : Int32) * (S1  (0 : Int32).toNatClampNeg)) + 1).toNatClampNeg x22)))], [(b3, .inl (cs 0, 48, .inl S3))], [(b4, .inl (cs 0, 48, .inl S4))], [(b5, .inl (cs 0, 40, .inl S5))], [(b6, .inl (cs 0, 32, .inl S6))], [(b7, .inl (cs 0, 6, .inl S7))], (w_X10 ad (0) cs en S8)]) H70 := hP'
      have hD' : va_D A (fl [[(b1, .inl (cs 0, 8, .inl S1))], [(b2, .inl (cs 0, 24, .inl (sU S2_59 (((4 : Int32) * (S1  (0 : Int32).toNatClampNeg)) + 1).toNatClampNeg x22)))], [(b3, .inl (cs 0, 48, .inl S3))], [(b4, .inl (cs 0, 48, .inl S4))], [(b5, .inl (cs 0, 40, .inl S5))], [(b6, .inl (cs 0, 32, .inl S6))], [(b7, .inl (cs 0, 6, .inl S7))], (w_X10 ad (0) cs en S8)]) := hD'
      replace hR := bn_e hR
      obtain ⟨S2_70, eS2_70, hR⟩ := hR
      replace hP : va_P (dC, dI) vwCl (fl [[(b1, .inl (cs 0, 8, .inl S1))], [(b2, .inl (cs 0, 24, .inl S2_70))], [(b3, .inl (cs 0, 48, .inl S3))], [(b4, .inl (cs 0, 48, .inl S4))], [(b5, .inl (cs 0, 40, .inl S5))], [(b6, .inl (cs 0, 32, .inl S6))], [(b7, .inl (cs 0, 6, .inl S7))], (w_X10 ad (0) cs en S8)]) H70 := by rw [eS2_70]; exact hP'
      replace hD : va_D A (fl [[(b1, .inl (cs 0, 8, .inl S1))], [(b2, .inl (cs 0, 24, .inl S2_70))], [(b3, .inl (cs 0, 48, .inl S3))], [(b4, .inl (cs 0, 48, .inl S4))], [(b5, .inl (cs 0, 40, .inl S5))], [(b6, .inl (cs 0, 32, .inl S6))], [(b7, .inl (cs 0, 6, .inl S7))], (w_X10 ad (0) cs en S8)]) := by rw [eS2_70]; exact hD'
      clear hP' hD' hS'
      refine lv_aload_n hx hb dL_brings_71 rfl (lv_at hl 3 rfl) ?_
      refine lv_iconst (v := 0) hx hb dL_brings_72 ic_0 ?_
      refine lv_dup2_11 hx hb dL_brings_73 rfl rfl ?_
      refine va_iald hx hb hK hP 0 0 rfl rfl vi_0_8 dL_brings_74 ?_
      refine lv_iconst (v := 1) hx hb dL_brings_75 ic_1 ?_
      refine lv_iadd hx hb dL_brings_76 ?_
      refine va_iast hx hb hK hP hD hS 0 0 rfl rfl vi_0_8 dL_brings_77 (fun H77 locs77 hP' hD' hS' => ?_)
      replace hS := hS'
      have hP' : va_P (dC, dI) vwCl (fl [[(b1, .inl (cs 0, 8, .inl (sU S1 (0 : Int32).toNatClampNeg ((S1  (0 : Int32).toNatClampNeg) + 1))))], [(b2, .inl (cs 0, 24, .inl S2_70))], [(b3, .inl (cs 0, 48, .inl S3))], [(b4, .inl (cs 0, 48, .inl S4))], [(b5, .inl (cs 0, 40, .inl S5))], [(b6, .inl (cs 0, 32, .inl S6))], [(b7, .inl (cs 0, 6, .inl S7))], (w_X10 ad (0) cs en S8)]) H77 := hP'
      have hD' : va_D A (fl [[(b1, .inl (cs 0, 8, .inl (sU S1 (0 : Int32).toNatClampNeg ((S1  (0 : Int32).toNatClampNeg) + 1))))], [(b2, .inl (cs 0, 24, .inl S2_70))], [(b3, .inl (cs 0, 48, .inl S3))], [(b4, .inl (cs 0, 48, .inl S4))], [(b5, .inl (cs 0, 40, .inl S5))], [(b6, .inl (cs 0, 32, .inl S6))], [(b7, .inl (cs 0, 6, .inl S7))], (w_X10 ad (0) cs en S8)]) := hD'
      replace hR := bn_e hR
      obtain ⟨S1_77, eS1_77, hR⟩ := hR
      replace hP : va_P (dC, dI) vwCl (fl [[(b1, .inl (cs 0, 8, .inl S1_77))], [(b2, .inl (cs 0, 24, .inl S2_70))], [(b3, .inl (cs 0, 48, .inl S3))], [(b4, .inl (cs 0, 48, .inl S4))], [(b5, .inl (cs 0, 40, .inl S5))], [(b6, .inl (cs 0, 32, .inl S6))], [(b7, .inl (cs 0, 6, .inl S7))], (w_X10 ad (0) cs en S8)]) H77 := by rw [eS1_77]; exact hP'
      replace hD : va_D A (fl [[(b1, .inl (cs 0, 8, .inl S1_77))], [(b2, .inl (cs 0, 24, .inl S2_70))], [(b3, .inl (cs 0, 48, .inl S3))], [(b4, .inl (cs 0, 48, .inl S4))], [(b5, .inl (cs 0, 40, .inl S5))], [(b6, .inl (cs 0, 32, .inl S6))], [(b7, .inl (cs 0, 6, .inl S7))], (w_X10 ad (0) cs en S8)]) := by rw [eS1_77]; exact hD'
      clear hP' hD' hS'
      refine lv_aload_n hx hb dL_brings_78 rfl (lv_at hl 2 rfl) ?_
      refine lv_iload hx hb dL_brings_79 (lv_at hl 1 rfl) ?_
      refine lv_iload hx hb dL_brings_81 (lv_at hl 0 rfl) ?_
      replace hR := bd_e hR
      obtain ⟨q83, gq83, hR⟩ := hR
      refine cm_Vi (As := [.int (p9 - p9 / 100 * 100), .int x22]) (rest := []) (L := [[(b1, .inl (cs 0, 8, .inl S1_77))], [(b2, .inl (cs 0, 24, .inl S2_70))], [(b3, .inl (cs 0, 48, .inl S3))], [(b4, .inl (cs 0, 48, .inl S4))], [(b5, .inl (cs 0, 40, .inl S5))], [(b6, .inl (cs 0, 32, .inl S6))], [(b7, .inl (cs 0, 6, .inl S7))], (w_X10 ad (0) cs en S8)]) (L' := [[(b1, .inl (cs 0, 8, .inl S1_77))], [(b2, .inl (cs 0, 24, .inl S2_70))], [(b3, .inl (cs 0, 48, .inl S3))], [(b4, .inl (cs 0, 48, .inl S4))], [(b5, .inl (cs 0, 40, .inl S5))], [(b6, .inl (cs 0, 32, .inl S6))], [(b7, .inl (cs 0, 6, .inl S7))], (w_X10 ad (0) cs en q83.2)]) (Wc := [(w_X10 ad (0) cs en S8)]) (Wc' := [(w_X10 ad (0) cs en q83.2)]) (is := [7]) (js := [0, 1, 2, 3, 4, 5, 6]) ⟨hx, hb, hml, hown, hts⟩ (k_X10_station l dC dI cs ad en H77.size S8 (p9 - p9 / 100 * 100) x22 q83.1 q83.2 gq83) (cwV 2 hts gL_brings_X10_station rfl rfl rfl cd_X10_station ⟨Nat.le_of_ble_eq_true rfl, Nat.le_of_ble_eq_true rfl⟩) hK hP hD hS hA (jx_7 (w_X10_fst ad 0 cs en _ _)) (jn_nd (is := [7]) hD rfl rfl) 7 8 rfl rfl rfl rfl rfl hl.1 (Nat.le_of_ble_eq_true rfl) dL_brings_83 ⟨Nat.le_of_ble_eq_true rfl, Nat.le_of_ble_eq_true rfl⟩ (fun H83 locs83 hP' hD' hS' => ?_)
      replace hS := hS'
      replace hP : va_P (dC, dI) vwCl (fl [[(b1, .inl (cs 0, 8, .inl S1_77))], [(b2, .inl (cs 0, 24, .inl S2_70))], [(b3, .inl (cs 0, 48, .inl S3))], [(b4, .inl (cs 0, 48, .inl S4))], [(b5, .inl (cs 0, 40, .inl S5))], [(b6, .inl (cs 0, 32, .inl S6))], [(b7, .inl (cs 0, 6, .inl S7))], (w_X10 ad (0) cs en q83.2)]) H83 := hP'
      replace hD : va_D A (fl [[(b1, .inl (cs 0, 8, .inl S1_77))], [(b2, .inl (cs 0, 24, .inl S2_70))], [(b3, .inl (cs 0, 48, .inl S3))], [(b4, .inl (cs 0, 48, .inl S4))], [(b5, .inl (cs 0, 40, .inl S5))], [(b6, .inl (cs 0, 32, .inl S6))], [(b7, .inl (cs 0, 6, .inl S7))], (w_X10 ad (0) cs en q83.2)]) := hD'
      clear hP' hD' hS'
      refine lv_aload_n hx hb dL_brings_86 rfl (lv_at hl 3 rfl) ?_
      refine lv_iconst (v := 0) hx hb dL_brings_87 ic_0 ?_
      refine va_iald hx hb hK hP 0 0 rfl rfl vi_0_8 dL_brings_88 ?_
      refine lv_iconst (v := 1) hx hb dL_brings_89 ic_1 ?_
      refine lv_isub hx hb dL_brings_90 ?_
      refine lv_icmp_ne (tgt := 98) hx hb dL_brings_91 (by decide) (fun c91 => ?_) (fun c91 => ?_)
      · replace hR := it_f hR c91
        refine lv_iconst (v := 0) hx hb dL_brings_98 ic_0 ?_
        replace hR := Option.some.inj hR
        obtain ⟨e9, hR⟩ := Prod.mk.inj hR
        obtain ⟨eu1, hR⟩ := Prod.mk.inj hR
        obtain ⟨eu2, hR⟩ := Prod.mk.inj hR
        obtain ⟨eu3, hR⟩ := Prod.mk.inj hR
        obtain ⟨eu5, hR⟩ := Prod.mk.inj hR
        obtain ⟨eu7, hR⟩ := Prod.mk.inj hR
        have eu8 := hR
        replace hP : va_P (dC, dI) vwCl (fl [[(b1, .inl (cs 0, 8, .inl u1))], [(b2, .inl (cs 0, 24, .inl u2))], [(b3, .inl (cs 0, 48, .inl u3))], [(b4, .inl (cs 0, 48, .inl S4))], [(b5, .inl (cs 0, 40, .inl u5))], [(b6, .inl (cs 0, 32, .inl S6))], [(b7, .inl (cs 0, 6, .inl u7))], (w_X10 ad (0) cs en u8)]) H83 := by rw [← eu1, ← eu2, ← eu3, ← eu5, ← eu7, ← eu8]; exact hP
        replace hD : va_D A (fl [[(b1, .inl (cs 0, 8, .inl u1))], [(b2, .inl (cs 0, 24, .inl u2))], [(b3, .inl (cs 0, 48, .inl u3))], [(b4, .inl (cs 0, 48, .inl S4))], [(b5, .inl (cs 0, 40, .inl u5))], [(b6, .inl (cs 0, 32, .inl S6))], [(b7, .inl (cs 0, 6, .inl u7))], (w_X10 ad (0) cs en u8)]) := by rw [← eu1, ← eu2, ← eu3, ← eu5, ← eu7, ← eu8]; exact hD
        exact W.zret (ty := .boolean) hx hb hr (by decide) (fun t ht hW => ⟨⟨_, (), rfl, e9, by rw [ht]; exact hP, va_K.moved hW.alike hK, hD⟩, hS.F ht⟩) hS.2.2 dL_brings_99
      · replace hR := it_t hR c91
        refine lv_iconst (v := 1) hx hb dL_brings_94 ic_1 ?_
        refine lv_goto (tgt := 99) hx hb dL_brings_95 (by decide) ?_
        replace hR := Option.some.inj hR
        obtain ⟨e9, hR⟩ := Prod.mk.inj hR
        obtain ⟨eu1, hR⟩ := Prod.mk.inj hR
        obtain ⟨eu2, hR⟩ := Prod.mk.inj hR
        obtain ⟨eu3, hR⟩ := Prod.mk.inj hR
        obtain ⟨eu5, hR⟩ := Prod.mk.inj hR
        obtain ⟨eu7, hR⟩ := Prod.mk.inj hR
        have eu8 := hR
        replace hP : va_P (dC, dI) vwCl (fl [[(b1, .inl (cs 0, 8, .inl u1))], [(b2, .inl (cs 0, 24, .inl u2))], [(b3, .inl (cs 0, 48, .inl u3))], [(b4, .inl (cs 0, 48, .inl S4))], [(b5, .inl (cs 0, 40, .inl u5))], [(b6, .inl (cs 0, 32, .inl S6))], [(b7, .inl (cs 0, 6, .inl u7))], (w_X10 ad (0) cs en u8)]) H83 := by rw [← eu1, ← eu2, ← eu3, ← eu5, ← eu7, ← eu8]; exact hP
        replace hD : va_D A (fl [[(b1, .inl (cs 0, 8, .inl u1))], [(b2, .inl (cs 0, 24, .inl u2))], [(b3, .inl (cs 0, 48, .inl u3))], [(b4, .inl (cs 0, 48, .inl S4))], [(b5, .inl (cs 0, 40, .inl u5))], [(b6, .inl (cs 0, 32, .inl S6))], [(b7, .inl (cs 0, 6, .inl u7))], (w_X10 ad (0) cs en u8)]) := by rw [← eu1, ← eu2, ← eu3, ← eu5, ← eu7, ← eu8]; exact hD
        exact W.zret (ty := .boolean) hx hb hr (by decide) (fun t ht hW => ⟨⟨_, (), rfl, e9, by rw [ht]; exact hP, va_K.moved hW.alike hK, hD⟩, hS.F ht⟩) hS.2.2 dL_brings_99
    · replace hR := it_t hR c29
      refine lv_aload_n hx hb dL_brings_32 rfl (lv_at hl 2 rfl) ?_
      refine lv_iload hx hb dL_brings_33 (lv_at hl 1 rfl) ?_
      refine lv_iload hx hb dL_brings_35 (lv_at hl 0 rfl) ?_
      replace hR := bd_e hR
      obtain ⟨q37, gq37, hR⟩ := hR
      refine cm_Vi (As := [.int (p9 - p9 / 100 * 100), .int x22]) (rest := []) (L := [[(b1, .inl (cs 0, 8, .inl S1))], [(b2, .inl (cs 0, 24, .inl S2))], [(b3, .inl (cs 0, 48, .inl S3))], [(b4, .inl (cs 0, 48, .inl S4))], [(b5, .inl (cs 0, 40, .inl S5))], [(b6, .inl (cs 0, 32, .inl S6))], [(b7, .inl (cs 0, 6, .inl S7))], (w_X10 ad (0) cs en S8)]) (L' := [[(b1, .inl (cs 0, 8, .inl S1))], [(b2, .inl (cs 0, 24, .inl S2))], [(b3, .inl (cs 0, 48, .inl S3))], [(b4, .inl (cs 0, 48, .inl S4))], [(b5, .inl (cs 0, 40, .inl S5))], [(b6, .inl (cs 0, 32, .inl S6))], [(b7, .inl (cs 0, 6, .inl S7))], (w_X10 ad (0) cs en q37.2)]) (Wc := [(w_X10 ad (0) cs en S8)]) (Wc' := [(w_X10 ad (0) cs en q37.2)]) (is := [7]) (js := [0, 1, 2, 3, 4, 5, 6]) ⟨hx, hb, hml, hown, hts⟩ (k_X10_station l dC dI cs ad en s.heap.size S8 (p9 - p9 / 100 * 100) x22 q37.1 q37.2 gq37) (cwV 2 hts gL_brings_X10_station rfl rfl rfl cd_X10_station ⟨Nat.le_of_ble_eq_true rfl, Nat.le_of_ble_eq_true rfl⟩) hK hP hD hS hA (jx_7 (w_X10_fst ad 0 cs en _ _)) (jn_nd (is := [7]) hD rfl rfl) 7 8 rfl rfl rfl rfl rfl hl.1 (Nat.le_of_ble_eq_true rfl) dL_brings_37 ⟨Nat.le_of_ble_eq_true rfl, Nat.le_of_ble_eq_true rfl⟩ (fun H37 locs37 hP' hD' hS' => ?_)
      replace hS := hS'
      replace hP : va_P (dC, dI) vwCl (fl [[(b1, .inl (cs 0, 8, .inl S1))], [(b2, .inl (cs 0, 24, .inl S2))], [(b3, .inl (cs 0, 48, .inl S3))], [(b4, .inl (cs 0, 48, .inl S4))], [(b5, .inl (cs 0, 40, .inl S5))], [(b6, .inl (cs 0, 32, .inl S6))], [(b7, .inl (cs 0, 6, .inl S7))], (w_X10 ad (0) cs en q37.2)]) H37 := hP'
      replace hD : va_D A (fl [[(b1, .inl (cs 0, 8, .inl S1))], [(b2, .inl (cs 0, 24, .inl S2))], [(b3, .inl (cs 0, 48, .inl S3))], [(b4, .inl (cs 0, 48, .inl S4))], [(b5, .inl (cs 0, 40, .inl S5))], [(b6, .inl (cs 0, 32, .inl S6))], [(b7, .inl (cs 0, 6, .inl S7))], (w_X10 ad (0) cs en q37.2)]) := hD'
      clear hP' hD' hS'
      refine lv_bipush (v := (-3)) hx hb dL_brings_40 bp_m3 ?_
      refine lv_icmp_ne (tgt := 49) hx hb dL_brings_42 (by decide) (fun c42 => ?_) (fun c42 => ?_)
      · replace hR := it_f hR c42
        refine lv_iconst (v := 0) hx hb dL_brings_49 ic_0 ?_
        replace hR := Option.some.inj hR
        obtain ⟨e9, hR⟩ := Prod.mk.inj hR
        obtain ⟨eu1, hR⟩ := Prod.mk.inj hR
        obtain ⟨eu2, hR⟩ := Prod.mk.inj hR
        obtain ⟨eu3, hR⟩ := Prod.mk.inj hR
        obtain ⟨eu5, hR⟩ := Prod.mk.inj hR
        obtain ⟨eu7, hR⟩ := Prod.mk.inj hR
        have eu8 := hR
        replace hP : va_P (dC, dI) vwCl (fl [[(b1, .inl (cs 0, 8, .inl u1))], [(b2, .inl (cs 0, 24, .inl u2))], [(b3, .inl (cs 0, 48, .inl u3))], [(b4, .inl (cs 0, 48, .inl S4))], [(b5, .inl (cs 0, 40, .inl u5))], [(b6, .inl (cs 0, 32, .inl S6))], [(b7, .inl (cs 0, 6, .inl u7))], (w_X10 ad (0) cs en u8)]) H37 := by rw [← eu1, ← eu2, ← eu3, ← eu5, ← eu7, ← eu8]; exact hP
        replace hD : va_D A (fl [[(b1, .inl (cs 0, 8, .inl u1))], [(b2, .inl (cs 0, 24, .inl u2))], [(b3, .inl (cs 0, 48, .inl u3))], [(b4, .inl (cs 0, 48, .inl S4))], [(b5, .inl (cs 0, 40, .inl u5))], [(b6, .inl (cs 0, 32, .inl S6))], [(b7, .inl (cs 0, 6, .inl u7))], (w_X10 ad (0) cs en u8)]) := by rw [← eu1, ← eu2, ← eu3, ← eu5, ← eu7, ← eu8]; exact hD
        exact W.zret (ty := .boolean) hx hb hr (by decide) (fun t ht hW => ⟨⟨_, (), rfl, e9, by rw [ht]; exact hP, va_K.moved hW.alike hK, hD⟩, hS.F ht⟩) hS.2.2 dL_brings_50
      · replace hR := it_t hR c42
        refine lv_iconst (v := 1) hx hb dL_brings_45 ic_1 ?_
        refine lv_goto (tgt := 50) hx hb dL_brings_46 (by decide) ?_
        replace hR := Option.some.inj hR
        obtain ⟨e9, hR⟩ := Prod.mk.inj hR
        obtain ⟨eu1, hR⟩ := Prod.mk.inj hR
        obtain ⟨eu2, hR⟩ := Prod.mk.inj hR
        obtain ⟨eu3, hR⟩ := Prod.mk.inj hR
        obtain ⟨eu5, hR⟩ := Prod.mk.inj hR
        obtain ⟨eu7, hR⟩ := Prod.mk.inj hR
        have eu8 := hR
        replace hP : va_P (dC, dI) vwCl (fl [[(b1, .inl (cs 0, 8, .inl u1))], [(b2, .inl (cs 0, 24, .inl u2))], [(b3, .inl (cs 0, 48, .inl u3))], [(b4, .inl (cs 0, 48, .inl S4))], [(b5, .inl (cs 0, 40, .inl u5))], [(b6, .inl (cs 0, 32, .inl S6))], [(b7, .inl (cs 0, 6, .inl u7))], (w_X10 ad (0) cs en u8)]) H37 := by rw [← eu1, ← eu2, ← eu3, ← eu5, ← eu7, ← eu8]; exact hP
        replace hD : va_D A (fl [[(b1, .inl (cs 0, 8, .inl u1))], [(b2, .inl (cs 0, 24, .inl u2))], [(b3, .inl (cs 0, 48, .inl u3))], [(b4, .inl (cs 0, 48, .inl S4))], [(b5, .inl (cs 0, 40, .inl u5))], [(b6, .inl (cs 0, 32, .inl S6))], [(b7, .inl (cs 0, 6, .inl u7))], (w_X10 ad (0) cs en u8)]) := by rw [← eu1, ← eu2, ← eu3, ← eu5, ← eu7, ← eu8]; exact hD
        exact W.zret (ty := .boolean) hx hb hr (by decide) (fun t ht hW => ⟨⟨_, (), rfl, e9, by rw [ht]; exact hP, va_K.moved hW.alike hK, hD⟩, hS.F ht⟩) hS.2.2 dL_brings_50
