set_option maxHeartbeats 8000000 in
set_option maxRecDepth 100000 in
theorem k_L_areBicycles (l : Launch) (dC : Nat → ClassId) (dI : Nat → Nat → Nat) (cs : Nat → ClassId) (ad : Nat → Nat) (en : Nat → Nat) (b1 b2 b3 : Nat) (sz : Nat) (S1 : T1) (S2 : T1) (S3 : T1) (S5 : T5) (r : Int32) (hR : fL_areBicycles S1 S2 S3 S5 = some r) : Met l yL_areBicycles wsL_areBicycles ({ frames := 5, cells := 1, slots := 4, locals := 109 } : Room) (va_Pc [.ref (ad 0), .ref b1, .ref b2, .ref b3] (pW dC dI (tyL cs) (fl [[(b1, .inl (cs 0, 8, .inl S1))], [(b2, .inl (cs 0, 48, .inl S2))], [(b3, .inl (cs 0, 48, .inl S3))], (w_X10 ad (0) cs en S5)]) sz)) (QI dC dI (tyL cs) (va_A (fl [[(b1, .inl (cs 0, 8, .inl S1))], [(b2, .inl (cs 0, 48, .inl S2))], [(b3, .inl (cs 0, 48, .inl S3))], (w_X10 ad (0) cs en S5)]) sz) (fl [[(b1, .inl (cs 0, 8, .inl S1))], [(b2, .inl (cs 0, 48, .inl S2))], [(b3, .inl (cs 0, 48, .inl S3))], (w_X10 ad (0) cs en S5)]) r) 1 4 (va_A (fl [[(b1, .inl (cs 0, 8, .inl S1))], [(b2, .inl (cs 0, 48, .inl S2))], [(b3, .inl (cs 0, 48, .inl S3))], (w_X10 ad (0) cs en S5)]) sz) := by
  refine mt_ofC (own := RL) (cc := cL_areBicycles) (maxL := 8) (ret := (some .boolean)) (Qc := fun A => QI dC dI (tyL cs) A (fl [[(b1, .inl (cs 0, 8, .inl S1))], [(b2, .inl (cs 0, 48, .inl S2))], [(b3, .inl (cs 0, 48, .inl S3))], (w_X10 ad (0) cs en S5)]) r) rfl (by decide) rfl (Nat.le_of_ble_eq_true rfl) (fun p e s m below meth c A ls hsz hx hb hr hts hown hlocks hml hA hK hP hD hS hl => ?_)
  subst hsz
  have hl : lv_has ls 8 [(0, .ref (ad 0)), (1, .ref b1), (2, .ref b2), (3, .ref b3)] := hl
  have hB177 : ∀ (b4 : Nat), ∀ (S4_177h : T1) (v4_177 : Int32) (v5_177 : Int32) (H : Heap) (locs : List Loc) (ls : Array Slot), fL_areBicycles_177 S1 S2 S3 S5 S4_177h v4_177 v5_177 = some r → va_P (dC, dI) vwCl (fl [[(b1, .inl (cs 0, 8, .inl S1))], [(b2, .inl (cs 0, 48, .inl S2))], [(b3, .inl (cs 0, 48, .inl S3))], [(b4, .inl (cs 0, 4, .inl S4_177h))], (w_X10 ad (0) cs en S5)]) H → va_D A (fl [[(b1, .inl (cs 0, 8, .inl S1))], [(b2, .inl (cs 0, 48, .inl S2))], [(b3, .inl (cs 0, 48, .inl S3))], [(b4, .inl (cs 0, 4, .inl S4_177h))], (w_X10 ad (0) cs en S5)]) → va_S A s.heap H locs → lv_has ls 8 [(0, .ref (ad 0)), (4, .int v4_177), (5, .int v5_177), (6, .ref b4)] → W p l e (headSpec wsL_areBicycles ({ frames := 5, cells := 1, slots := 4, locals := 109 } : Room)).room s m ([.ref (ad 0), .ref b1, .ref b2, .ref b3] : List Value).toArray below meth c H locs 1 4 (MQ below (QI dC dI (tyL cs) A (fl [[(b1, .inl (cs 0, 8, .inl S1))], [(b2, .inl (cs 0, 48, .inl S2))], [(b3, .inl (cs 0, 48, .inl S3))], (w_X10 ad (0) cs en S5)]) r) ([.ref (ad 0), .ref b1, .ref b2, .ref b3] : List Value).toArray s 1 4 A) (F0 m 177 ls []) := by
    intro b4
    intro S4_177h v4_177 v5_177 H locs ls hR hP hD hS hl
    refine lv_iload hx hb dL_areBicycles_177 (lv_at hl 1 rfl) ?_
    refine lv_if_eq (tgt := 248) hx hb dL_areBicycles_179 (by decide) (fun c179 => ?_) (fun c179 => ?_)
    · replace hR := it_t hR c179
      refine lv_iconst (v := 0) hx hb dL_areBicycles_248 ic_0 ?_
      replace hR := Option.some.inj hR
      replace hP := wd_drop_P hP
      replace hD := wd_drop_D hD
      have e9 := hR
      exact W.zret (ty := .boolean) hx hb hr (by decide) (fun t ht hW => ⟨⟨_, (), rfl, e9, by rw [ht]; exact hP, va_K.moved hW.alike hK, hD⟩, hS.F ht⟩) hS.2.2 dL_areBicycles_249
    · replace hR := it_f hR c179
      refine lv_aload_n hx hb dL_areBicycles_182 rfl (lv_at hl 0 rfl) ?_
      refine lv_iconst (v := 5) hx hb dL_areBicycles_183 ic_5 ?_
      replace hR := bd_e hR
      obtain ⟨q184, gq184, hR⟩ := hR
      refine cm_Vi (As := [.int (5 : Int32)]) (rest := []) (L := [[(b1, .inl (cs 0, 8, .inl S1))], [(b2, .inl (cs 0, 48, .inl S2))], [(b3, .inl (cs 0, 48, .inl S3))], [(b4, .inl (cs 0, 4, .inl S4_177h))], (w_X10 ad (0) cs en S5)]) (L' := [[(b1, .inl (cs 0, 8, .inl S1))], [(b2, .inl (cs 0, 48, .inl S2))], [(b3, .inl (cs 0, 48, .inl S3))], [(b4, .inl (cs 0, 4, .inl S4_177h))], (w_X10 ad (0) cs en S5)]) (Wc := [(w_X10 ad (0) cs en S5)]) (Wc' := [(w_X10 ad (0) cs en S5)]) (is := [4]) (js := [0, 1, 2, 3]) ⟨hx, hb, hml, hown, hts⟩ (k_X10_count l dC dI cs ad en H.size S5 (5 : Int32) q184 gq184) (cwV 1 hts gL_areBicycles_X10_count rfl rfl rfl cd_X10_count ⟨Nat.le_of_ble_eq_true rfl, Nat.le_of_ble_eq_true rfl⟩) hK hP hD hS hA ⟨rfl, rfl, rfl, rfl, rfl, rfl⟩ (jn_nd (is := [4]) hD rfl rfl) 4 8 rfl rfl rfl rfl rfl hl.1 (Nat.le_of_ble_eq_true rfl) dL_areBicycles_184 ⟨Nat.le_of_ble_eq_true rfl, Nat.le_of_ble_eq_true rfl⟩ (fun H184 locs184 hP' hD' hS' => ?_)
      replace hS := hS'
      replace hP : va_P (dC, dI) vwCl (fl [[(b1, .inl (cs 0, 8, .inl S1))], [(b2, .inl (cs 0, 48, .inl S2))], [(b3, .inl (cs 0, 48, .inl S3))], [(b4, .inl (cs 0, 4, .inl S4_177h))], (w_X10 ad (0) cs en S5)]) H184 := hP'
      replace hD : va_D A (fl [[(b1, .inl (cs 0, 8, .inl S1))], [(b2, .inl (cs 0, 48, .inl S2))], [(b3, .inl (cs 0, 48, .inl S3))], [(b4, .inl (cs 0, 4, .inl S4_177h))], (w_X10 ad (0) cs en S5)]) := hD'
      clear hP' hD' hS'
      refine lv_aload hx hb dL_areBicycles_187 (lv_at hl 3 rfl) ?_
      refine lv_iconst (v := 0) hx hb dL_areBicycles_189 ic_0 ?_
      refine va_iald hx hb hK hP 3 0 rfl rfl vi_0_4 dL_areBicycles_190 ?_
      refine lv_icmp_ne (tgt := 248) hx hb dL_areBicycles_191 (by decide) (fun c191 => ?_) (fun c191 => ?_)
      · replace hR := it_f hR c191
        refine lv_iconst (v := 0) hx hb dL_areBicycles_248 ic_0 ?_
        replace hR := Option.some.inj hR
        replace hP := wd_drop_P hP
        replace hD := wd_drop_D hD
        have e9 := hR
        exact W.zret (ty := .boolean) hx hb hr (by decide) (fun t ht hW => ⟨⟨_, (), rfl, e9, by rw [ht]; exact hP, va_K.moved hW.alike hK, hD⟩, hS.F ht⟩) hS.2.2 dL_areBicycles_249
      · replace hR := it_t hR c191
        refine lv_aload_n hx hb dL_areBicycles_194 rfl (lv_at hl 0 rfl) ?_
        refine lv_bipush (v := 6) hx hb dL_areBicycles_195 bp_6 ?_
        replace hR := bd_e hR
        obtain ⟨q197, gq197, hR⟩ := hR
        refine cm_Vi (As := [.int (6 : Int32)]) (rest := []) (L := [[(b1, .inl (cs 0, 8, .inl S1))], [(b2, .inl (cs 0, 48, .inl S2))], [(b3, .inl (cs 0, 48, .inl S3))], [(b4, .inl (cs 0, 4, .inl S4_177h))], (w_X10 ad (0) cs en S5)]) (L' := [[(b1, .inl (cs 0, 8, .inl S1))], [(b2, .inl (cs 0, 48, .inl S2))], [(b3, .inl (cs 0, 48, .inl S3))], [(b4, .inl (cs 0, 4, .inl S4_177h))], (w_X10 ad (0) cs en S5)]) (Wc := [(w_X10 ad (0) cs en S5)]) (Wc' := [(w_X10 ad (0) cs en S5)]) (is := [4]) (js := [0, 1, 2, 3]) ⟨hx, hb, hml, hown, hts⟩ (k_X10_count l dC dI cs ad en H184.size S5 (6 : Int32) q197 gq197) (cwV 1 hts gL_areBicycles_X10_count rfl rfl rfl cd_X10_count ⟨Nat.le_of_ble_eq_true rfl, Nat.le_of_ble_eq_true rfl⟩) hK hP hD hS hA ⟨rfl, rfl, rfl, rfl, rfl, rfl⟩ (jn_nd (is := [4]) hD rfl rfl) 4 8 rfl rfl rfl rfl rfl hl.1 (Nat.le_of_ble_eq_true rfl) dL_areBicycles_197 ⟨Nat.le_of_ble_eq_true rfl, Nat.le_of_ble_eq_true rfl⟩ (fun H197 locs197 hP' hD' hS' => ?_)
        replace hS := hS'
        replace hP : va_P (dC, dI) vwCl (fl [[(b1, .inl (cs 0, 8, .inl S1))], [(b2, .inl (cs 0, 48, .inl S2))], [(b3, .inl (cs 0, 48, .inl S3))], [(b4, .inl (cs 0, 4, .inl S4_177h))], (w_X10 ad (0) cs en S5)]) H197 := hP'
        replace hD : va_D A (fl [[(b1, .inl (cs 0, 8, .inl S1))], [(b2, .inl (cs 0, 48, .inl S2))], [(b3, .inl (cs 0, 48, .inl S3))], [(b4, .inl (cs 0, 4, .inl S4_177h))], (w_X10 ad (0) cs en S5)]) := hD'
        clear hP' hD' hS'
        refine lv_aload hx hb dL_areBicycles_200 (lv_at hl 3 rfl) ?_
        refine lv_iconst (v := 1) hx hb dL_areBicycles_202 ic_1 ?_
        refine va_iald hx hb hK hP 3 0 rfl rfl vi_1_4 dL_areBicycles_203 ?_
        refine lv_icmp_ne (tgt := 248) hx hb dL_areBicycles_204 (by decide) (fun c204 => ?_) (fun c204 => ?_)
        · replace hR := it_f hR c204
          refine lv_iconst (v := 0) hx hb dL_areBicycles_248 ic_0 ?_
          replace hR := Option.some.inj hR
          replace hP := wd_drop_P hP
          replace hD := wd_drop_D hD
          have e9 := hR
          exact W.zret (ty := .boolean) hx hb hr (by decide) (fun t ht hW => ⟨⟨_, (), rfl, e9, by rw [ht]; exact hP, va_K.moved hW.alike hK, hD⟩, hS.F ht⟩) hS.2.2 dL_areBicycles_249
        · replace hR := it_t hR c204
          refine lv_aload_n hx hb dL_areBicycles_207 rfl (lv_at hl 0 rfl) ?_
          refine lv_bipush (v := 7) hx hb dL_areBicycles_208 bp_7 ?_
          replace hR := bd_e hR
          obtain ⟨q210, gq210, hR⟩ := hR
          refine cm_Vi (As := [.int (7 : Int32)]) (rest := []) (L := [[(b1, .inl (cs 0, 8, .inl S1))], [(b2, .inl (cs 0, 48, .inl S2))], [(b3, .inl (cs 0, 48, .inl S3))], [(b4, .inl (cs 0, 4, .inl S4_177h))], (w_X10 ad (0) cs en S5)]) (L' := [[(b1, .inl (cs 0, 8, .inl S1))], [(b2, .inl (cs 0, 48, .inl S2))], [(b3, .inl (cs 0, 48, .inl S3))], [(b4, .inl (cs 0, 4, .inl S4_177h))], (w_X10 ad (0) cs en S5)]) (Wc := [(w_X10 ad (0) cs en S5)]) (Wc' := [(w_X10 ad (0) cs en S5)]) (is := [4]) (js := [0, 1, 2, 3]) ⟨hx, hb, hml, hown, hts⟩ (k_X10_count l dC dI cs ad en H197.size S5 (7 : Int32) q210 gq210) (cwV 1 hts gL_areBicycles_X10_count rfl rfl rfl cd_X10_count ⟨Nat.le_of_ble_eq_true rfl, Nat.le_of_ble_eq_true rfl⟩) hK hP hD hS hA ⟨rfl, rfl, rfl, rfl, rfl, rfl⟩ (jn_nd (is := [4]) hD rfl rfl) 4 8 rfl rfl rfl rfl rfl hl.1 (Nat.le_of_ble_eq_true rfl) dL_areBicycles_210 ⟨Nat.le_of_ble_eq_true rfl, Nat.le_of_ble_eq_true rfl⟩ (fun H210 locs210 hP' hD' hS' => ?_)
          replace hS := hS'
          replace hP : va_P (dC, dI) vwCl (fl [[(b1, .inl (cs 0, 8, .inl S1))], [(b2, .inl (cs 0, 48, .inl S2))], [(b3, .inl (cs 0, 48, .inl S3))], [(b4, .inl (cs 0, 4, .inl S4_177h))], (w_X10 ad (0) cs en S5)]) H210 := hP'
          replace hD : va_D A (fl [[(b1, .inl (cs 0, 8, .inl S1))], [(b2, .inl (cs 0, 48, .inl S2))], [(b3, .inl (cs 0, 48, .inl S3))], [(b4, .inl (cs 0, 4, .inl S4_177h))], (w_X10 ad (0) cs en S5)]) := hD'
          clear hP' hD' hS'
          refine lv_aload hx hb dL_areBicycles_213 (lv_at hl 3 rfl) ?_
          refine lv_iconst (v := 2) hx hb dL_areBicycles_215 ic_2 ?_
          refine va_iald hx hb hK hP 3 0 rfl rfl vi_2_4 dL_areBicycles_216 ?_
          refine lv_icmp_ne (tgt := 248) hx hb dL_areBicycles_217 (by decide) (fun c217 => ?_) (fun c217 => ?_)
          · replace hR := it_f hR c217
            refine lv_iconst (v := 0) hx hb dL_areBicycles_248 ic_0 ?_
            replace hR := Option.some.inj hR
            replace hP := wd_drop_P hP
            replace hD := wd_drop_D hD
            have e9 := hR
            exact W.zret (ty := .boolean) hx hb hr (by decide) (fun t ht hW => ⟨⟨_, (), rfl, e9, by rw [ht]; exact hP, va_K.moved hW.alike hK, hD⟩, hS.F ht⟩) hS.2.2 dL_areBicycles_249
          · replace hR := it_t hR c217
            refine lv_aload_n hx hb dL_areBicycles_220 rfl (lv_at hl 0 rfl) ?_
            refine lv_bipush (v := 8) hx hb dL_areBicycles_221 bp_8 ?_
            replace hR := bd_e hR
            obtain ⟨q223, gq223, hR⟩ := hR
            refine cm_Vi (As := [.int (8 : Int32)]) (rest := []) (L := [[(b1, .inl (cs 0, 8, .inl S1))], [(b2, .inl (cs 0, 48, .inl S2))], [(b3, .inl (cs 0, 48, .inl S3))], [(b4, .inl (cs 0, 4, .inl S4_177h))], (w_X10 ad (0) cs en S5)]) (L' := [[(b1, .inl (cs 0, 8, .inl S1))], [(b2, .inl (cs 0, 48, .inl S2))], [(b3, .inl (cs 0, 48, .inl S3))], [(b4, .inl (cs 0, 4, .inl S4_177h))], (w_X10 ad (0) cs en S5)]) (Wc := [(w_X10 ad (0) cs en S5)]) (Wc' := [(w_X10 ad (0) cs en S5)]) (is := [4]) (js := [0, 1, 2, 3]) ⟨hx, hb, hml, hown, hts⟩ (k_X10_count l dC dI cs ad en H210.size S5 (8 : Int32) q223 gq223) (cwV 1 hts gL_areBicycles_X10_count rfl rfl rfl cd_X10_count ⟨Nat.le_of_ble_eq_true rfl, Nat.le_of_ble_eq_true rfl⟩) hK hP hD hS hA ⟨rfl, rfl, rfl, rfl, rfl, rfl⟩ (jn_nd (is := [4]) hD rfl rfl) 4 8 rfl rfl rfl rfl rfl hl.1 (Nat.le_of_ble_eq_true rfl) dL_areBicycles_223 ⟨Nat.le_of_ble_eq_true rfl, Nat.le_of_ble_eq_true rfl⟩ (fun H223 locs223 hP' hD' hS' => ?_)
            replace hS := hS'
            replace hP : va_P (dC, dI) vwCl (fl [[(b1, .inl (cs 0, 8, .inl S1))], [(b2, .inl (cs 0, 48, .inl S2))], [(b3, .inl (cs 0, 48, .inl S3))], [(b4, .inl (cs 0, 4, .inl S4_177h))], (w_X10 ad (0) cs en S5)]) H223 := hP'
            replace hD : va_D A (fl [[(b1, .inl (cs 0, 8, .inl S1))], [(b2, .inl (cs 0, 48, .inl S2))], [(b3, .inl (cs 0, 48, .inl S3))], [(b4, .inl (cs 0, 4, .inl S4_177h))], (w_X10 ad (0) cs en S5)]) := hD'
            clear hP' hD' hS'
            refine lv_aload hx hb dL_areBicycles_226 (lv_at hl 3 rfl) ?_
            refine lv_iconst (v := 3) hx hb dL_areBicycles_228 ic_3 ?_
            refine va_iald hx hb hK hP 3 0 rfl rfl vi_3_4 dL_areBicycles_229 ?_
            refine lv_icmp_ne (tgt := 248) hx hb dL_areBicycles_230 (by decide) (fun c230 => ?_) (fun c230 => ?_)
            · replace hR := it_f hR c230
              refine lv_iconst (v := 0) hx hb dL_areBicycles_248 ic_0 ?_
              replace hR := Option.some.inj hR
              replace hP := wd_drop_P hP
              replace hD := wd_drop_D hD
              have e9 := hR
              exact W.zret (ty := .boolean) hx hb hr (by decide) (fun t ht hW => ⟨⟨_, (), rfl, e9, by rw [ht]; exact hP, va_K.moved hW.alike hK, hD⟩, hS.F ht⟩) hS.2.2 dL_areBicycles_249
            · replace hR := it_t hR c230
              refine lv_aload_n hx hb dL_areBicycles_233 rfl (lv_at hl 0 rfl) ?_
              refine lv_bipush (v := 9) hx hb dL_areBicycles_234 bp_9 ?_
              replace hR := bd_e hR
              obtain ⟨q236, gq236, hR⟩ := hR
              refine cm_Vi (As := [.int (9 : Int32)]) (rest := []) (L := [[(b1, .inl (cs 0, 8, .inl S1))], [(b2, .inl (cs 0, 48, .inl S2))], [(b3, .inl (cs 0, 48, .inl S3))], [(b4, .inl (cs 0, 4, .inl S4_177h))], (w_X10 ad (0) cs en S5)]) (L' := [[(b1, .inl (cs 0, 8, .inl S1))], [(b2, .inl (cs 0, 48, .inl S2))], [(b3, .inl (cs 0, 48, .inl S3))], [(b4, .inl (cs 0, 4, .inl S4_177h))], (w_X10 ad (0) cs en S5)]) (Wc := [(w_X10 ad (0) cs en S5)]) (Wc' := [(w_X10 ad (0) cs en S5)]) (is := [4]) (js := [0, 1, 2, 3]) ⟨hx, hb, hml, hown, hts⟩ (k_X10_count l dC dI cs ad en H223.size S5 (9 : Int32) q236 gq236) (cwV 1 hts gL_areBicycles_X10_count rfl rfl rfl cd_X10_count ⟨Nat.le_of_ble_eq_true rfl, Nat.le_of_ble_eq_true rfl⟩) hK hP hD hS hA ⟨rfl, rfl, rfl, rfl, rfl, rfl⟩ (jn_nd (is := [4]) hD rfl rfl) 4 8 rfl rfl rfl rfl rfl hl.1 (Nat.le_of_ble_eq_true rfl) dL_areBicycles_236 ⟨Nat.le_of_ble_eq_true rfl, Nat.le_of_ble_eq_true rfl⟩ (fun H236 locs236 hP' hD' hS' => ?_)
              replace hS := hS'
              replace hP : va_P (dC, dI) vwCl (fl [[(b1, .inl (cs 0, 8, .inl S1))], [(b2, .inl (cs 0, 48, .inl S2))], [(b3, .inl (cs 0, 48, .inl S3))], [(b4, .inl (cs 0, 4, .inl S4_177h))], (w_X10 ad (0) cs en S5)]) H236 := hP'
              replace hD : va_D A (fl [[(b1, .inl (cs 0, 8, .inl S1))], [(b2, .inl (cs 0, 48, .inl S2))], [(b3, .inl (cs 0, 48, .inl S3))], [(b4, .inl (cs 0, 4, .inl S4_177h))], (w_X10 ad (0) cs en S5)]) := hD'
              clear hP' hD' hS'
              refine lv_iload hx hb dL_areBicycles_239 (lv_at hl 2 rfl) ?_
              refine lv_icmp_ne (tgt := 248) hx hb dL_areBicycles_241 (by decide) (fun c241 => ?_) (fun c241 => ?_)
              · replace hR := it_f hR c241
                refine lv_iconst (v := 0) hx hb dL_areBicycles_248 ic_0 ?_
                replace hR := Option.some.inj hR
                replace hP := wd_drop_P hP
                replace hD := wd_drop_D hD
                have e9 := hR
                exact W.zret (ty := .boolean) hx hb hr (by decide) (fun t ht hW => ⟨⟨_, (), rfl, e9, by rw [ht]; exact hP, va_K.moved hW.alike hK, hD⟩, hS.F ht⟩) hS.2.2 dL_areBicycles_249
              · replace hR := it_t hR c241
                refine lv_iconst (v := 1) hx hb dL_areBicycles_244 ic_1 ?_
                refine lv_goto (tgt := 249) hx hb dL_areBicycles_245 (by decide) ?_
                replace hR := Option.some.inj hR
                replace hP := wd_drop_P hP
                replace hD := wd_drop_D hD
                have e9 := hR
                exact W.zret (ty := .boolean) hx hb hr (by decide) (fun t ht hW => ⟨⟨_, (), rfl, e9, by rw [ht]; exact hP, va_K.moved hW.alike hK, hD⟩, hS.F ht⟩) hS.2.2 dL_areBicycles_249
  have hB30 : ∀ (b4 : Nat), ∀ (n30 : Nat), ∀ (S4_30h : T1) (v4_30 : Int32) (v5_30 : Int32) (v7_30 : Int32) (H : Heap) (locs : List Loc) (ls : Array Slot), fL_areBicycles_30 S1 S2 S3 S5 n30 S4_30h v4_30 v5_30 v7_30 = some r → va_P (dC, dI) vwCl (fl [[(b1, .inl (cs 0, 8, .inl S1))], [(b2, .inl (cs 0, 48, .inl S2))], [(b3, .inl (cs 0, 48, .inl S3))], [(b4, .inl (cs 0, 4, .inl S4_30h))], (w_X10 ad (0) cs en S5)]) H → va_D A (fl [[(b1, .inl (cs 0, 8, .inl S1))], [(b2, .inl (cs 0, 48, .inl S2))], [(b3, .inl (cs 0, 48, .inl S3))], [(b4, .inl (cs 0, 4, .inl S4_30h))], (w_X10 ad (0) cs en S5)]) → va_S A s.heap H locs → lv_has ls 8 [(0, .ref (ad 0)), (1, .ref b1), (2, .ref b2), (3, .ref b3), (4, .int v4_30), (5, .int v5_30), (6, .ref b4), (7, .int v7_30)] → W p l e (headSpec wsL_areBicycles ({ frames := 5, cells := 1, slots := 4, locals := 109 } : Room)).room s m ([.ref (ad 0), .ref b1, .ref b2, .ref b3] : List Value).toArray below meth c H locs 1 4 (MQ below (QI dC dI (tyL cs) A (fl [[(b1, .inl (cs 0, 8, .inl S1))], [(b2, .inl (cs 0, 48, .inl S2))], [(b3, .inl (cs 0, 48, .inl S3))], (w_X10 ad (0) cs en S5)]) r) ([.ref (ad 0), .ref b1, .ref b2, .ref b3] : List Value).toArray s 1 4 A) (F0 m 30 ls []) := by
    intro b4
    intro n30
    induction n30 with
    | zero =>
      intro S4_30h v4_30 v5_30 v7_30 H locs ls hR hP hD hS hl
      exact nn_e hR
    | succ n30 hI30 =>
      have hB169 : ∀ (S4_169h : T1) (v5_169 : Int32) (v7_169 : Int32) (t0_169 : Int32) (H : Heap) (locs : List Loc) (ls : Array Slot), fL_areBicycles_169 (fL_areBicycles_30 S1 S2 S3 S5 n30) S1 S2 S3 S5 S4_169h v5_169 v7_169 t0_169 = some r → va_P (dC, dI) vwCl (fl [[(b1, .inl (cs 0, 8, .inl S1))], [(b2, .inl (cs 0, 48, .inl S2))], [(b3, .inl (cs 0, 48, .inl S3))], [(b4, .inl (cs 0, 4, .inl S4_169h))], (w_X10 ad (0) cs en S5)]) H → va_D A (fl [[(b1, .inl (cs 0, 8, .inl S1))], [(b2, .inl (cs 0, 48, .inl S2))], [(b3, .inl (cs 0, 48, .inl S3))], [(b4, .inl (cs 0, 4, .inl S4_169h))], (w_X10 ad (0) cs en S5)]) → va_S A s.heap H locs → lv_has ls 8 [(0, .ref (ad 0)), (1, .ref b1), (2, .ref b2), (3, .ref b3), (5, .int v5_169), (6, .ref b4), (7, .int v7_169)] → W p l e (headSpec wsL_areBicycles ({ frames := 5, cells := 1, slots := 4, locals := 109 } : Room)).room s m ([.ref (ad 0), .ref b1, .ref b2, .ref b3] : List Value).toArray below meth c H locs 1 4 (MQ below (QI dC dI (tyL cs) A (fl [[(b1, .inl (cs 0, 8, .inl S1))], [(b2, .inl (cs 0, 48, .inl S2))], [(b3, .inl (cs 0, 48, .inl S3))], (w_X10 ad (0) cs en S5)]) r) ([.ref (ad 0), .ref b1, .ref b2, .ref b3] : List Value).toArray s 1 4 A) (F0 m 169 ls [.int t0_169]) := by
        intro S4_169h v5_169 v7_169 t0_169 H locs ls hR hP hD hS hl
        refine lv_istore (lv' := [(4, .int t0_169), (0, .ref (ad 0)), (1, .ref b1), (2, .ref b2), (3, .ref b3), (5, .int v5_169), (6, .ref b4), (7, .int v7_169)]) hx hb dL_areBicycles_169 hl (Nat.le_of_ble_eq_true rfl) rfl (fun ls hl => ?_)
        refine lv_iinc (v := (v7_169 + 1)) (lv' := [(7, .int (v7_169 + 1)), (4, .int t0_169), (0, .ref (ad 0)), (1, .ref b1), (2, .ref b2), (3, .ref b3), (5, .int v5_169), (6, .ref b4)]) hx hb dL_areBicycles_171 hl (k := 7) rfl rfl (Nat.le_of_ble_eq_true rfl) rfl (fun ls hl => ?_)
        refine lv_goto (tgt := 30) hx hb dL_areBicycles_174 (by decide) ?_
        exact hI30 S4_169h t0_169 v5_169 (v7_169 + 1) H _ ls hR hP hD hS (lv_sub hl [2, 3, 4, 5, 1, 6, 7, 0] rfl)
      have hB168 : ∀ (S4_168h : T1) (v5_168 : Int32) (v7_168 : Int32) (H : Heap) (locs : List Loc) (ls : Array Slot), fL_areBicycles_168 (fL_areBicycles_30 S1 S2 S3 S5 n30) S1 S2 S3 S5 S4_168h v5_168 v7_168 = some r → va_P (dC, dI) vwCl (fl [[(b1, .inl (cs 0, 8, .inl S1))], [(b2, .inl (cs 0, 48, .inl S2))], [(b3, .inl (cs 0, 48, .inl S3))], [(b4, .inl (cs 0, 4, .inl S4_168h))], (w_X10 ad (0) cs en S5)]) H → va_D A (fl [[(b1, .inl (cs 0, 8, .inl S1))], [(b2, .inl (cs 0, 48, .inl S2))], [(b3, .inl (cs 0, 48, .inl S3))], [(b4, .inl (cs 0, 4, .inl S4_168h))], (w_X10 ad (0) cs en S5)]) → va_S A s.heap H locs → lv_has ls 8 [(0, .ref (ad 0)), (1, .ref b1), (2, .ref b2), (3, .ref b3), (5, .int v5_168), (6, .ref b4), (7, .int v7_168)] → W p l e (headSpec wsL_areBicycles ({ frames := 5, cells := 1, slots := 4, locals := 109 } : Room)).room s m ([.ref (ad 0), .ref b1, .ref b2, .ref b3] : List Value).toArray below meth c H locs 1 4 (MQ below (QI dC dI (tyL cs) A (fl [[(b1, .inl (cs 0, 8, .inl S1))], [(b2, .inl (cs 0, 48, .inl S2))], [(b3, .inl (cs 0, 48, .inl S3))], (w_X10 ad (0) cs en S5)]) r) ([.ref (ad 0), .ref b1, .ref b2, .ref b3] : List Value).toArray s 1 4 A) (F0 m 168 ls []) := by
        intro S4_168h v5_168 v7_168 H locs ls hR hP hD hS hl
        refine lv_iconst (v := 0) hx hb dL_areBicycles_168 ic_0 ?_
        exact hB169 S4_168h v5_168 v7_168 (0 : Int32) H _ ls hR hP hD hS (lv_sub hl [0, 1, 2, 3, 4, 5, 6] rfl)
      intro S4_30h v4_30 v5_30 v7_30 H locs ls hR hP hD hS hl
      rw [fL_areBicycles_30] at hR
      refine lv_iload hx hb dL_areBicycles_30 (lv_at hl 7 rfl) ?_
      refine lv_aload_n hx hb dL_areBicycles_32 rfl (lv_at hl 1 rfl) ?_
      refine lv_iconst (v := 1) hx hb dL_areBicycles_33 ic_1 ?_
      refine va_iald hx hb hK hP 0 0 rfl rfl vi_1_8 dL_areBicycles_34 ?_
      refine lv_icmp_ge (tgt := 177) hx hb dL_areBicycles_35 (by decide) (fun c35 => ?_) (fun c35 => ?_)
      · replace hR := it_t hR c35
        exact hB177 b4 S4_30h v4_30 v5_30 H _ ls hR hP hD hS (lv_sub hl [0, 4, 5, 6] rfl)
      · replace hR := it_f hR c35
        refine lv_iload hx hb dL_areBicycles_38 (lv_at hl 4 rfl) ?_
        refine lv_if_eq (tgt := 177) hx hb dL_areBicycles_40 (by decide) (fun c40 => ?_) (fun c40 => ?_)
        · replace hR := it_t hR c40
          exact hB177 b4 S4_30h v4_30 v5_30 H _ ls hR hP hD hS (lv_sub hl [0, 4, 5, 6] rfl)
        · replace hR := it_f hR c40
          refine lv_iload hx hb dL_areBicycles_43 (lv_at hl 5 rfl) ?_
          refine lv_aload_n hx hb dL_areBicycles_45 rfl (lv_at hl 3 rfl) ?_
          refine lv_iconst (v := 3) hx hb dL_areBicycles_46 ic_3 ?_
          refine lv_iload hx hb dL_areBicycles_47 (lv_at hl 7 rfl) ?_
          refine lv_imul hx hb dL_areBicycles_49 ?_
          replace hR := gi_e hR
          obtain ⟨i50, hR⟩ := hR
          refine va_iald hx hb hK hP 2 0 rfl rfl i50 dL_areBicycles_50 ?_
          refine lv_iadd hx hb dL_areBicycles_51 ?_
          replace hR := bn_e hR
          obtain ⟨x52, ex52, hR⟩ := hR
          refine tp_g ex52 ?_
          refine lv_istore (lv' := [(5, .int x52), (0, .ref (ad 0)), (1, .ref b1), (2, .ref b2), (3, .ref b3), (4, .int v4_30), (6, .ref b4), (7, .int v7_30)]) hx hb dL_areBicycles_52 hl (Nat.le_of_ble_eq_true rfl) rfl (fun ls hl => ?_)
          refine lv_aload hx hb dL_areBicycles_54 (lv_at hl 6 rfl) ?_
          refine lv_aload_n hx hb dL_areBicycles_56 rfl (lv_at hl 3 rfl) ?_
          refine lv_iconst (v := 3) hx hb dL_areBicycles_57 ic_3 ?_
          refine lv_iload hx hb dL_areBicycles_58 (lv_at hl 7 rfl) ?_
          refine lv_imul hx hb dL_areBicycles_60 ?_
          replace hR := gi_e hR
          obtain ⟨i61, hR⟩ := hR
          refine va_iald hx hb hK hP 1 0 rfl rfl i61 dL_areBicycles_61 ?_
          refine lv_dup2_11 hx hb dL_areBicycles_62 rfl rfl ?_
          replace hR := gi_e hR
          obtain ⟨i63, hR⟩ := hR
          refine va_iald hx hb hK hP 3 0 rfl rfl i63 dL_areBicycles_63 ?_
          refine lv_iconst (v := 1) hx hb dL_areBicycles_64 ic_1 ?_
          refine lv_iadd hx hb dL_areBicycles_65 ?_
          replace hR := gi_e hR
          obtain ⟨i66, hR⟩ := hR
          refine va_iast hx hb hK hP hD hS 3 0 rfl rfl i66 dL_areBicycles_66 (fun H66 locs66 hP' hD' hS' => ?_)
          replace hS := hS'
          have hP' : va_P (dC, dI) vwCl (fl [[(b1, .inl (cs 0, 8, .inl S1))], [(b2, .inl (cs 0, 48, .inl S2))], [(b3, .inl (cs 0, 48, .inl S3))], [(b4, .inl (cs 0, 4, .inl (sU S4_30h (S2  ((3 : Int32) * v7_30).toNatClampNeg).toNatClampNeg ((S4_30h  (S2  ((3 : Int32) * v7_30).toNatClampNeg).toNatClampNeg) + 1))))], (w_X10 ad (0) cs en S5)]) H66 := hP'
          have hD' : va_D A (fl [[(b1, .inl (cs 0, 8, .inl S1))], [(b2, .inl (cs 0, 48, .inl S2))], [(b3, .inl (cs 0, 48, .inl S3))], [(b4, .inl (cs 0, 4, .inl (sU S4_30h (S2  ((3 : Int32) * v7_30).toNatClampNeg).toNatClampNeg ((S4_30h  (S2  ((3 : Int32) * v7_30).toNatClampNeg).toNatClampNeg) + 1))))], (w_X10 ad (0) cs en S5)]) := hD'
          replace hR := bn_e hR
          obtain ⟨S4_66, eS4_66, hR⟩ := hR
          replace hP : va_P (dC, dI) vwCl (fl [[(b1, .inl (cs 0, 8, .inl S1))], [(b2, .inl (cs 0, 48, .inl S2))], [(b3, .inl (cs 0, 48, .inl S3))], [(b4, .inl (cs 0, 4, .inl S4_66))], (w_X10 ad (0) cs en S5)]) H66 := by rw [eS4_66]; exact hP'
          replace hD : va_D A (fl [[(b1, .inl (cs 0, 8, .inl S1))], [(b2, .inl (cs 0, 48, .inl S2))], [(b3, .inl (cs 0, 48, .inl S3))], [(b4, .inl (cs 0, 4, .inl S4_66))], (w_X10 ad (0) cs en S5)]) := by rw [eS4_66]; exact hD'
          clear hP' hD' hS'
          refine lv_aload_n hx hb dL_areBicycles_67 rfl (lv_at hl 1 rfl) ?_
          refine lv_iload hx hb dL_areBicycles_68 (lv_at hl 7 rfl) ?_
          refine lv_iconst (v := 0) hx hb dL_areBicycles_70 ic_0 ?_
          replace hR := bd_e hR
          obtain ⟨q71, gq71, hR⟩ := hR
          refine cm_Vi (As := [.int v7_30, .int (0 : Int32)]) (rest := []) (L := [[(b1, .inl (cs 0, 8, .inl S1))], [(b2, .inl (cs 0, 48, .inl S2))], [(b3, .inl (cs 0, 48, .inl S3))], [(b4, .inl (cs 0, 4, .inl S4_66))], (w_X10 ad (0) cs en S5)]) (L' := [[(b1, .inl (cs 0, 8, .inl S1))], [(b2, .inl (cs 0, 48, .inl S2))], [(b3, .inl (cs 0, 48, .inl S3))], [(b4, .inl (cs 0, 4, .inl S4_66))], (w_X10 ad (0) cs en S5)]) (Wc := [(w_X10 ad (0) cs en S5)]) (Wc' := [(w_X10 ad (0) cs en S5)]) (is := [4]) (js := [0, 1, 2, 3]) ⟨hx, hb, hml, hown, hts⟩ (k_X10_bicycleOf l dC dI cs ad en H66.size S5 v7_30 (0 : Int32) q71 gq71) (cwV 2 hts gL_areBicycles_X10_bicycleOf rfl rfl rfl cd_X10_bicycleOf ⟨Nat.le_of_ble_eq_true rfl, Nat.le_of_ble_eq_true rfl⟩) hK hP hD hS hA ⟨rfl, rfl, rfl, rfl, rfl, rfl⟩ (jn_nd (is := [4]) hD rfl rfl) 4 8 rfl rfl rfl rfl rfl hl.1 (Nat.le_of_ble_eq_true rfl) dL_areBicycles_71 ⟨Nat.le_of_ble_eq_true rfl, Nat.le_of_ble_eq_true rfl⟩ (fun H71 locs71 hP' hD' hS' => ?_)
          replace hS := hS'
          replace hP : va_P (dC, dI) vwCl (fl [[(b1, .inl (cs 0, 8, .inl S1))], [(b2, .inl (cs 0, 48, .inl S2))], [(b3, .inl (cs 0, 48, .inl S3))], [(b4, .inl (cs 0, 4, .inl S4_66))], (w_X10 ad (0) cs en S5)]) H71 := hP'
          replace hD : va_D A (fl [[(b1, .inl (cs 0, 8, .inl S1))], [(b2, .inl (cs 0, 48, .inl S2))], [(b3, .inl (cs 0, 48, .inl S3))], [(b4, .inl (cs 0, 4, .inl S4_66))], (w_X10 ad (0) cs en S5)]) := hD'
          clear hP' hD' hS'
          refine lv_aload_n hx hb dL_areBicycles_74 rfl (lv_at hl 3 rfl) ?_
          refine lv_iconst (v := 3) hx hb dL_areBicycles_75 ic_3 ?_
          refine lv_iload hx hb dL_areBicycles_76 (lv_at hl 7 rfl) ?_
          refine lv_imul hx hb dL_areBicycles_78 ?_
          replace hR := gi_e hR
          obtain ⟨i79, hR⟩ := hR
          refine va_iald hx hb hK hP 1 0 rfl rfl i79 dL_areBicycles_79 ?_
          refine lv_icmp_ne (tgt := 168) hx hb dL_areBicycles_80 (by decide) (fun c80 => ?_) (fun c80 => ?_)
          · replace hR := it_f hR c80
            exact hB168 S4_66 x52 v7_30 H71 _ ls hR hP hD hS (lv_sub hl [1, 2, 3, 4, 0, 6, 7] rfl)
          · replace hR := it_t hR c80
            refine lv_aload_n hx hb dL_areBicycles_83 rfl (lv_at hl 1 rfl) ?_
            refine lv_iload hx hb dL_areBicycles_84 (lv_at hl 7 rfl) ?_
            refine lv_iconst (v := 1) hx hb dL_areBicycles_86 ic_1 ?_
            replace hR := bd_e hR
            obtain ⟨q87, gq87, hR⟩ := hR
            refine cm_Vi (As := [.int v7_30, .int (1 : Int32)]) (rest := []) (L := [[(b1, .inl (cs 0, 8, .inl S1))], [(b2, .inl (cs 0, 48, .inl S2))], [(b3, .inl (cs 0, 48, .inl S3))], [(b4, .inl (cs 0, 4, .inl S4_66))], (w_X10 ad (0) cs en S5)]) (L' := [[(b1, .inl (cs 0, 8, .inl S1))], [(b2, .inl (cs 0, 48, .inl S2))], [(b3, .inl (cs 0, 48, .inl S3))], [(b4, .inl (cs 0, 4, .inl S4_66))], (w_X10 ad (0) cs en S5)]) (Wc := [(w_X10 ad (0) cs en S5)]) (Wc' := [(w_X10 ad (0) cs en S5)]) (is := [4]) (js := [0, 1, 2, 3]) ⟨hx, hb, hml, hown, hts⟩ (k_X10_bicycleOf l dC dI cs ad en H71.size S5 v7_30 (1 : Int32) q87 gq87) (cwV 2 hts gL_areBicycles_X10_bicycleOf rfl rfl rfl cd_X10_bicycleOf ⟨Nat.le_of_ble_eq_true rfl, Nat.le_of_ble_eq_true rfl⟩) hK hP hD hS hA ⟨rfl, rfl, rfl, rfl, rfl, rfl⟩ (jn_nd (is := [4]) hD rfl rfl) 4 8 rfl rfl rfl rfl rfl hl.1 (Nat.le_of_ble_eq_true rfl) dL_areBicycles_87 ⟨Nat.le_of_ble_eq_true rfl, Nat.le_of_ble_eq_true rfl⟩ (fun H87 locs87 hP' hD' hS' => ?_)
            replace hS := hS'
            replace hP : va_P (dC, dI) vwCl (fl [[(b1, .inl (cs 0, 8, .inl S1))], [(b2, .inl (cs 0, 48, .inl S2))], [(b3, .inl (cs 0, 48, .inl S3))], [(b4, .inl (cs 0, 4, .inl S4_66))], (w_X10 ad (0) cs en S5)]) H87 := hP'
            replace hD : va_D A (fl [[(b1, .inl (cs 0, 8, .inl S1))], [(b2, .inl (cs 0, 48, .inl S2))], [(b3, .inl (cs 0, 48, .inl S3))], [(b4, .inl (cs 0, 4, .inl S4_66))], (w_X10 ad (0) cs en S5)]) := hD'
            clear hP' hD' hS'
            refine lv_aload_n hx hb dL_areBicycles_90 rfl (lv_at hl 3 rfl) ?_
            refine lv_iconst (v := 3) hx hb dL_areBicycles_91 ic_3 ?_
            refine lv_iload hx hb dL_areBicycles_92 (lv_at hl 7 rfl) ?_
            refine lv_imul hx hb dL_areBicycles_94 ?_
            refine lv_iconst (v := 1) hx hb dL_areBicycles_95 ic_1 ?_
            refine lv_iadd hx hb dL_areBicycles_96 ?_
            replace hR := gi_e hR
            obtain ⟨i97, hR⟩ := hR
            refine va_iald hx hb hK hP 1 0 rfl rfl i97 dL_areBicycles_97 ?_
            refine lv_icmp_ne (tgt := 168) hx hb dL_areBicycles_98 (by decide) (fun c98 => ?_) (fun c98 => ?_)
            · replace hR := it_f hR c98
              exact hB168 S4_66 x52 v7_30 H87 _ ls hR hP hD hS (lv_sub hl [1, 2, 3, 4, 0, 6, 7] rfl)
            · replace hR := it_t hR c98
              refine lv_aload_n hx hb dL_areBicycles_101 rfl (lv_at hl 1 rfl) ?_
              refine lv_iload hx hb dL_areBicycles_102 (lv_at hl 7 rfl) ?_
              refine lv_iconst (v := 2) hx hb dL_areBicycles_104 ic_2 ?_
              replace hR := bd_e hR
              obtain ⟨q105, gq105, hR⟩ := hR
              refine cm_Vi (As := [.int v7_30, .int (2 : Int32)]) (rest := []) (L := [[(b1, .inl (cs 0, 8, .inl S1))], [(b2, .inl (cs 0, 48, .inl S2))], [(b3, .inl (cs 0, 48, .inl S3))], [(b4, .inl (cs 0, 4, .inl S4_66))], (w_X10 ad (0) cs en S5)]) (L' := [[(b1, .inl (cs 0, 8, .inl S1))], [(b2, .inl (cs 0, 48, .inl S2))], [(b3, .inl (cs 0, 48, .inl S3))], [(b4, .inl (cs 0, 4, .inl S4_66))], (w_X10 ad (0) cs en S5)]) (Wc := [(w_X10 ad (0) cs en S5)]) (Wc' := [(w_X10 ad (0) cs en S5)]) (is := [4]) (js := [0, 1, 2, 3]) ⟨hx, hb, hml, hown, hts⟩ (k_X10_bicycleOf l dC dI cs ad en H87.size S5 v7_30 (2 : Int32) q105 gq105) (cwV 2 hts gL_areBicycles_X10_bicycleOf rfl rfl rfl cd_X10_bicycleOf ⟨Nat.le_of_ble_eq_true rfl, Nat.le_of_ble_eq_true rfl⟩) hK hP hD hS hA ⟨rfl, rfl, rfl, rfl, rfl, rfl⟩ (jn_nd (is := [4]) hD rfl rfl) 4 8 rfl rfl rfl rfl rfl hl.1 (Nat.le_of_ble_eq_true rfl) dL_areBicycles_105 ⟨Nat.le_of_ble_eq_true rfl, Nat.le_of_ble_eq_true rfl⟩ (fun H105 locs105 hP' hD' hS' => ?_)
              replace hS := hS'
              replace hP : va_P (dC, dI) vwCl (fl [[(b1, .inl (cs 0, 8, .inl S1))], [(b2, .inl (cs 0, 48, .inl S2))], [(b3, .inl (cs 0, 48, .inl S3))], [(b4, .inl (cs 0, 4, .inl S4_66))], (w_X10 ad (0) cs en S5)]) H105 := hP'
              replace hD : va_D A (fl [[(b1, .inl (cs 0, 8, .inl S1))], [(b2, .inl (cs 0, 48, .inl S2))], [(b3, .inl (cs 0, 48, .inl S3))], [(b4, .inl (cs 0, 4, .inl S4_66))], (w_X10 ad (0) cs en S5)]) := hD'
              clear hP' hD' hS'
              refine lv_aload_n hx hb dL_areBicycles_108 rfl (lv_at hl 3 rfl) ?_
              refine lv_iconst (v := 3) hx hb dL_areBicycles_109 ic_3 ?_
              refine lv_iload hx hb dL_areBicycles_110 (lv_at hl 7 rfl) ?_
              refine lv_imul hx hb dL_areBicycles_112 ?_
              refine lv_iconst (v := 2) hx hb dL_areBicycles_113 ic_2 ?_
              refine lv_iadd hx hb dL_areBicycles_114 ?_
              replace hR := gi_e hR
              obtain ⟨i115, hR⟩ := hR
              refine va_iald hx hb hK hP 1 0 rfl rfl i115 dL_areBicycles_115 ?_
              refine lv_icmp_ne (tgt := 168) hx hb dL_areBicycles_116 (by decide) (fun c116 => ?_) (fun c116 => ?_)
              · replace hR := it_f hR c116
                exact hB168 S4_66 x52 v7_30 H105 _ ls hR hP hD hS (lv_sub hl [1, 2, 3, 4, 0, 6, 7] rfl)
              · replace hR := it_t hR c116
                refine lv_aload_n hx hb dL_areBicycles_119 rfl (lv_at hl 1 rfl) ?_
                refine lv_iload hx hb dL_areBicycles_120 (lv_at hl 7 rfl) ?_
                refine lv_iconst (v := 3) hx hb dL_areBicycles_122 ic_3 ?_
                replace hR := bd_e hR
                obtain ⟨q123, gq123, hR⟩ := hR
                refine cm_Vi (As := [.int v7_30, .int (3 : Int32)]) (rest := []) (L := [[(b1, .inl (cs 0, 8, .inl S1))], [(b2, .inl (cs 0, 48, .inl S2))], [(b3, .inl (cs 0, 48, .inl S3))], [(b4, .inl (cs 0, 4, .inl S4_66))], (w_X10 ad (0) cs en S5)]) (L' := [[(b1, .inl (cs 0, 8, .inl S1))], [(b2, .inl (cs 0, 48, .inl S2))], [(b3, .inl (cs 0, 48, .inl S3))], [(b4, .inl (cs 0, 4, .inl S4_66))], (w_X10 ad (0) cs en S5)]) (Wc := [(w_X10 ad (0) cs en S5)]) (Wc' := [(w_X10 ad (0) cs en S5)]) (is := [4]) (js := [0, 1, 2, 3]) ⟨hx, hb, hml, hown, hts⟩ (k_X10_bicycleOf l dC dI cs ad en H105.size S5 v7_30 (3 : Int32) q123 gq123) (cwV 2 hts gL_areBicycles_X10_bicycleOf rfl rfl rfl cd_X10_bicycleOf ⟨Nat.le_of_ble_eq_true rfl, Nat.le_of_ble_eq_true rfl⟩) hK hP hD hS hA ⟨rfl, rfl, rfl, rfl, rfl, rfl⟩ (jn_nd (is := [4]) hD rfl rfl) 4 8 rfl rfl rfl rfl rfl hl.1 (Nat.le_of_ble_eq_true rfl) dL_areBicycles_123 ⟨Nat.le_of_ble_eq_true rfl, Nat.le_of_ble_eq_true rfl⟩ (fun H123 locs123 hP' hD' hS' => ?_)
                replace hS := hS'
                replace hP : va_P (dC, dI) vwCl (fl [[(b1, .inl (cs 0, 8, .inl S1))], [(b2, .inl (cs 0, 48, .inl S2))], [(b3, .inl (cs 0, 48, .inl S3))], [(b4, .inl (cs 0, 4, .inl S4_66))], (w_X10 ad (0) cs en S5)]) H123 := hP'
                replace hD : va_D A (fl [[(b1, .inl (cs 0, 8, .inl S1))], [(b2, .inl (cs 0, 48, .inl S2))], [(b3, .inl (cs 0, 48, .inl S3))], [(b4, .inl (cs 0, 4, .inl S4_66))], (w_X10 ad (0) cs en S5)]) := hD'
                clear hP' hD' hS'
                refine lv_aload_n hx hb dL_areBicycles_126 rfl (lv_at hl 4 rfl) ?_
                refine lv_iconst (v := 3) hx hb dL_areBicycles_127 ic_3 ?_
                refine lv_iload hx hb dL_areBicycles_128 (lv_at hl 7 rfl) ?_
                refine lv_imul hx hb dL_areBicycles_130 ?_
                replace hR := gi_e hR
                obtain ⟨i131, hR⟩ := hR
                refine va_iald hx hb hK hP 2 0 rfl rfl i131 dL_areBicycles_131 ?_
                refine lv_icmp_ne (tgt := 168) hx hb dL_areBicycles_132 (by decide) (fun c132 => ?_) (fun c132 => ?_)
                · replace hR := it_f hR c132
                  exact hB168 S4_66 x52 v7_30 H123 _ ls hR hP hD hS (lv_sub hl [1, 2, 3, 4, 0, 6, 7] rfl)
                · replace hR := it_t hR c132
                  refine lv_aload_n hx hb dL_areBicycles_135 rfl (lv_at hl 1 rfl) ?_
                  refine lv_iload hx hb dL_areBicycles_136 (lv_at hl 7 rfl) ?_
                  refine lv_iconst (v := 4) hx hb dL_areBicycles_138 ic_4 ?_
                  replace hR := bd_e hR
                  obtain ⟨q139, gq139, hR⟩ := hR
                  refine cm_Vi (As := [.int v7_30, .int (4 : Int32)]) (rest := []) (L := [[(b1, .inl (cs 0, 8, .inl S1))], [(b2, .inl (cs 0, 48, .inl S2))], [(b3, .inl (cs 0, 48, .inl S3))], [(b4, .inl (cs 0, 4, .inl S4_66))], (w_X10 ad (0) cs en S5)]) (L' := [[(b1, .inl (cs 0, 8, .inl S1))], [(b2, .inl (cs 0, 48, .inl S2))], [(b3, .inl (cs 0, 48, .inl S3))], [(b4, .inl (cs 0, 4, .inl S4_66))], (w_X10 ad (0) cs en S5)]) (Wc := [(w_X10 ad (0) cs en S5)]) (Wc' := [(w_X10 ad (0) cs en S5)]) (is := [4]) (js := [0, 1, 2, 3]) ⟨hx, hb, hml, hown, hts⟩ (k_X10_bicycleOf l dC dI cs ad en H123.size S5 v7_30 (4 : Int32) q139 gq139) (cwV 2 hts gL_areBicycles_X10_bicycleOf rfl rfl rfl cd_X10_bicycleOf ⟨Nat.le_of_ble_eq_true rfl, Nat.le_of_ble_eq_true rfl⟩) hK hP hD hS hA ⟨rfl, rfl, rfl, rfl, rfl, rfl⟩ (jn_nd (is := [4]) hD rfl rfl) 4 8 rfl rfl rfl rfl rfl hl.1 (Nat.le_of_ble_eq_true rfl) dL_areBicycles_139 ⟨Nat.le_of_ble_eq_true rfl, Nat.le_of_ble_eq_true rfl⟩ (fun H139 locs139 hP' hD' hS' => ?_)
                  replace hS := hS'
                  replace hP : va_P (dC, dI) vwCl (fl [[(b1, .inl (cs 0, 8, .inl S1))], [(b2, .inl (cs 0, 48, .inl S2))], [(b3, .inl (cs 0, 48, .inl S3))], [(b4, .inl (cs 0, 4, .inl S4_66))], (w_X10 ad (0) cs en S5)]) H139 := hP'
                  replace hD : va_D A (fl [[(b1, .inl (cs 0, 8, .inl S1))], [(b2, .inl (cs 0, 48, .inl S2))], [(b3, .inl (cs 0, 48, .inl S3))], [(b4, .inl (cs 0, 4, .inl S4_66))], (w_X10 ad (0) cs en S5)]) := hD'
                  clear hP' hD' hS'
                  refine lv_aload_n hx hb dL_areBicycles_142 rfl (lv_at hl 4 rfl) ?_
                  refine lv_iconst (v := 3) hx hb dL_areBicycles_143 ic_3 ?_
                  refine lv_iload hx hb dL_areBicycles_144 (lv_at hl 7 rfl) ?_
                  refine lv_imul hx hb dL_areBicycles_146 ?_
                  refine lv_iconst (v := 1) hx hb dL_areBicycles_147 ic_1 ?_
                  refine lv_iadd hx hb dL_areBicycles_148 ?_
                  replace hR := gi_e hR
                  obtain ⟨i149, hR⟩ := hR
                  refine va_iald hx hb hK hP 2 0 rfl rfl i149 dL_areBicycles_149 ?_
                  refine lv_icmp_ne (tgt := 168) hx hb dL_areBicycles_150 (by decide) (fun c150 => ?_) (fun c150 => ?_)
                  · replace hR := it_f hR c150
                    exact hB168 S4_66 x52 v7_30 H139 _ ls hR hP hD hS (lv_sub hl [1, 2, 3, 4, 0, 6, 7] rfl)
                  · replace hR := it_t hR c150
                    refine lv_aload_n hx hb dL_areBicycles_153 rfl (lv_at hl 1 rfl) ?_
                    refine lv_iload hx hb dL_areBicycles_154 (lv_at hl 7 rfl) ?_
                    refine lv_iconst (v := 5) hx hb dL_areBicycles_156 ic_5 ?_
                    replace hR := bd_e hR
                    obtain ⟨q157, gq157, hR⟩ := hR
                    refine cm_Vi (As := [.int v7_30, .int (5 : Int32)]) (rest := []) (L := [[(b1, .inl (cs 0, 8, .inl S1))], [(b2, .inl (cs 0, 48, .inl S2))], [(b3, .inl (cs 0, 48, .inl S3))], [(b4, .inl (cs 0, 4, .inl S4_66))], (w_X10 ad (0) cs en S5)]) (L' := [[(b1, .inl (cs 0, 8, .inl S1))], [(b2, .inl (cs 0, 48, .inl S2))], [(b3, .inl (cs 0, 48, .inl S3))], [(b4, .inl (cs 0, 4, .inl S4_66))], (w_X10 ad (0) cs en S5)]) (Wc := [(w_X10 ad (0) cs en S5)]) (Wc' := [(w_X10 ad (0) cs en S5)]) (is := [4]) (js := [0, 1, 2, 3]) ⟨hx, hb, hml, hown, hts⟩ (k_X10_bicycleOf l dC dI cs ad en H139.size S5 v7_30 (5 : Int32) q157 gq157) (cwV 2 hts gL_areBicycles_X10_bicycleOf rfl rfl rfl cd_X10_bicycleOf ⟨Nat.le_of_ble_eq_true rfl, Nat.le_of_ble_eq_true rfl⟩) hK hP hD hS hA ⟨rfl, rfl, rfl, rfl, rfl, rfl⟩ (jn_nd (is := [4]) hD rfl rfl) 4 8 rfl rfl rfl rfl rfl hl.1 (Nat.le_of_ble_eq_true rfl) dL_areBicycles_157 ⟨Nat.le_of_ble_eq_true rfl, Nat.le_of_ble_eq_true rfl⟩ (fun H157 locs157 hP' hD' hS' => ?_)
                    replace hS := hS'
                    replace hP : va_P (dC, dI) vwCl (fl [[(b1, .inl (cs 0, 8, .inl S1))], [(b2, .inl (cs 0, 48, .inl S2))], [(b3, .inl (cs 0, 48, .inl S3))], [(b4, .inl (cs 0, 4, .inl S4_66))], (w_X10 ad (0) cs en S5)]) H157 := hP'
                    replace hD : va_D A (fl [[(b1, .inl (cs 0, 8, .inl S1))], [(b2, .inl (cs 0, 48, .inl S2))], [(b3, .inl (cs 0, 48, .inl S3))], [(b4, .inl (cs 0, 4, .inl S4_66))], (w_X10 ad (0) cs en S5)]) := hD'
                    clear hP' hD' hS'
                    refine lv_iconst (v := (-1)) hx hb dL_areBicycles_160 ic_m1 ?_
                    refine lv_icmp_ne (tgt := 168) hx hb dL_areBicycles_161 (by decide) (fun c161 => ?_) (fun c161 => ?_)
                    · replace hR := it_f hR c161
                      exact hB168 S4_66 x52 v7_30 H157 _ ls hR hP hD hS (lv_sub hl [1, 2, 3, 4, 0, 6, 7] rfl)
                    · replace hR := it_t hR c161
                      refine lv_iconst (v := 1) hx hb dL_areBicycles_164 ic_1 ?_
                      refine lv_goto (tgt := 169) hx hb dL_areBicycles_165 (by decide) ?_
                      exact hB169 S4_66 x52 v7_30 (1 : Int32) H157 _ ls hR hP hD hS (lv_sub hl [1, 2, 3, 4, 0, 6, 7] rfl)
  have hB17 : ∀ (S4_17h : T1) (t0_17 : Int32) (H : Heap) (locs : List Loc) (ls : Array Slot), fL_areBicycles_17 S1 S2 S3 S5 S4_17h t0_17 = some r → va_P (dC, dI) vwCl (fl [[(b1, .inl (cs 0, 8, .inl S1))], [(b2, .inl (cs 0, 48, .inl S2))], [(b3, .inl (cs 0, 48, .inl S3))], (w_X10 ad (0) cs en S5)]) H → va_D A (fl [[(b1, .inl (cs 0, 8, .inl S1))], [(b2, .inl (cs 0, 48, .inl S2))], [(b3, .inl (cs 0, 48, .inl S3))], (w_X10 ad (0) cs en S5)]) → va_S A s.heap H locs → lv_has ls 8 [(0, .ref (ad 0)), (1, .ref b1), (2, .ref b2), (3, .ref b3)] → W p l e (headSpec wsL_areBicycles ({ frames := 5, cells := 1, slots := 4, locals := 109 } : Room)).room s m ([.ref (ad 0), .ref b1, .ref b2, .ref b3] : List Value).toArray below meth c H locs 0 0 (MQ below (QI dC dI (tyL cs) A (fl [[(b1, .inl (cs 0, 8, .inl S1))], [(b2, .inl (cs 0, 48, .inl S2))], [(b3, .inl (cs 0, 48, .inl S3))], (w_X10 ad (0) cs en S5)]) r) ([.ref (ad 0), .ref b1, .ref b2, .ref b3] : List Value).toArray s 1 4 A) (F0 m 17 ls [.int t0_17]) := by
    intro S4_17h t0_17 H locs ls hR hP hD hS hl
    refine lv_istore (lv' := [(4, .int t0_17), (0, .ref (ad 0)), (1, .ref b1), (2, .ref b2), (3, .ref b3)]) hx hb dL_areBicycles_17 hl (Nat.le_of_ble_eq_true rfl) rfl (fun ls hl => ?_)
    refine lv_iconst (v := 0) hx hb dL_areBicycles_19 ic_0 ?_
    refine lv_istore (lv' := [(5, .int (0 : Int32)), (4, .int t0_17), (0, .ref (ad 0)), (1, .ref b1), (2, .ref b2), (3, .ref b3)]) hx hb dL_areBicycles_20 hl (Nat.le_of_ble_eq_true rfl) rfl (fun ls hl => ?_)
    refine lv_iconst (v := 4) hx hb dL_areBicycles_22 ic_4 ?_
    refine nw_ai (L := [[(b1, .inl (cs 0, 8, .inl S1))], [(b2, .inl (cs 0, 48, .inl S2))], [(b3, .inl (cs 0, 48, .inl S3))], (w_X10 ad (0) cs en S5)]) hx hb (hts (.arrayClass .int) (List.mem_of_getElem? (i := 1) rfl)) hK hP hD hS hA (N := 4) (by decide) (by decide) (by decide) (Nat.le_of_ble_eq_true rfl) (Nat.le_of_ble_eq_true rfl) dL_areBicycles_23 (fun b4 H23 hP' hD' hS' => ?_)
    replace hS := hS'
    replace hP : va_P (dC, dI) vwCl (fl [[(b1, .inl (cs 0, 8, .inl S1))], [(b2, .inl (cs 0, 48, .inl S2))], [(b3, .inl (cs 0, 48, .inl S3))], [(b4, .inl (cs 0, 4, .inl (fun _ => 0)))], (w_X10 ad (0) cs en S5)]) H23 := wd_move_P hP'
    replace hD : va_D A (fl [[(b1, .inl (cs 0, 8, .inl S1))], [(b2, .inl (cs 0, 48, .inl S2))], [(b3, .inl (cs 0, 48, .inl S3))], [(b4, .inl (cs 0, 4, .inl (fun _ => 0)))], (w_X10 ad (0) cs en S5)]) := wd_move_D hD'
    clear hP' hD' hS'
    refine lv_astore (lv' := [(6, .ref b4), (5, .int (0 : Int32)), (4, .int t0_17), (0, .ref (ad 0)), (1, .ref b1), (2, .ref b2), (3, .ref b3)]) hx hb dL_areBicycles_25 hl (Nat.le_of_ble_eq_true rfl) rfl (fun ls hl => ?_)
    refine lv_iconst (v := 0) hx hb dL_areBicycles_27 ic_0 ?_
    refine lv_istore (lv' := [(7, .int (0 : Int32)), (6, .ref b4), (5, .int (0 : Int32)), (4, .int t0_17), (0, .ref (ad 0)), (1, .ref b1), (2, .ref b2), (3, .ref b3)]) hx hb dL_areBicycles_28 hl (Nat.le_of_ble_eq_true rfl) rfl (fun ls hl => ?_)
    exact hB30 b4 fuel (fun _ => 0) t0_17 (0 : Int32) (0 : Int32) H23 _ ls hR hP hD hS (lv_sub hl [4, 5, 6, 7, 3, 2, 1, 0] rfl)
  refine lv_aload_n hx hb dL_areBicycles_0 rfl (lv_at hl 0 rfl) ?_
  refine lv_aload_n hx hb dL_areBicycles_1 rfl (lv_at hl 1 rfl) ?_
  refine lv_iconst (v := 1) hx hb dL_areBicycles_2 ic_1 ?_
  refine va_iald hx hb hK hP 0 0 rfl rfl vi_1_8 dL_areBicycles_3 ?_
  refine lv_iconst (v := 0) hx hb dL_areBicycles_4 ic_0 ?_
  replace hR := bd_e hR
  obtain ⟨q5, gq5, hR⟩ := hR
  refine cm_Vi (As := [.int (S1  (1 : Int32).toNatClampNeg), .int (0 : Int32)]) (rest := []) (L := [[(b1, .inl (cs 0, 8, .inl S1))], [(b2, .inl (cs 0, 48, .inl S2))], [(b3, .inl (cs 0, 48, .inl S3))], (w_X10 ad (0) cs en S5)]) (L' := [[(b1, .inl (cs 0, 8, .inl S1))], [(b2, .inl (cs 0, 48, .inl S2))], [(b3, .inl (cs 0, 48, .inl S3))], (w_X10 ad (0) cs en S5)]) (Wc := [(w_X10 ad (0) cs en S5)]) (Wc' := [(w_X10 ad (0) cs en S5)]) (is := [3]) (js := [0, 1, 2]) ⟨hx, hb, hml, hown, hts⟩ (k_X10_bicycleOf l dC dI cs ad en s.heap.size S5 (S1  (1 : Int32).toNatClampNeg) (0 : Int32) q5 gq5) (cwV 2 hts gL_areBicycles_X10_bicycleOf rfl rfl rfl cd_X10_bicycleOf ⟨Nat.le_of_ble_eq_true rfl, Nat.le_of_ble_eq_true rfl⟩) hK hP hD hS hA ⟨rfl, rfl, rfl, rfl, rfl, rfl⟩ (jn_nd (is := [3]) hD rfl rfl) 3 8 rfl rfl rfl rfl rfl hl.1 (Nat.le_of_ble_eq_true rfl) dL_areBicycles_5 ⟨Nat.le_of_ble_eq_true rfl, Nat.le_of_ble_eq_true rfl⟩ (fun H5 locs5 hP' hD' hS' => ?_)
  replace hS := hS'
  replace hP : va_P (dC, dI) vwCl (fl [[(b1, .inl (cs 0, 8, .inl S1))], [(b2, .inl (cs 0, 48, .inl S2))], [(b3, .inl (cs 0, 48, .inl S3))], (w_X10 ad (0) cs en S5)]) H5 := hP'
  replace hD : va_D A (fl [[(b1, .inl (cs 0, 8, .inl S1))], [(b2, .inl (cs 0, 48, .inl S2))], [(b3, .inl (cs 0, 48, .inl S3))], (w_X10 ad (0) cs en S5)]) := hD'
  clear hP' hD' hS'
  refine lv_iconst (v := (-1)) hx hb dL_areBicycles_8 ic_m1 ?_
  refine lv_icmp_ne (tgt := 16) hx hb dL_areBicycles_9 (by decide) (fun c9 => ?_) (fun c9 => ?_)
  · replace hR := it_f hR c9
    refine lv_iconst (v := 0) hx hb dL_areBicycles_16 ic_0 ?_
    exact hB17 (fun _ => 0) (0 : Int32) H5 _ ls hR hP hD hS (lv_sub hl [0, 1, 2, 3] rfl)
  · replace hR := it_t hR c9
    refine lv_iconst (v := 1) hx hb dL_areBicycles_12 ic_1 ?_
    refine lv_goto (tgt := 17) hx hb dL_areBicycles_13 (by decide) ?_
    exact hB17 (fun _ => 0) (1 : Int32) H5 _ ls hR hP hD hS (lv_sub hl [0, 1, 2, 3] rfl)
set_option maxHeartbeats 8000000 in
set_option maxRecDepth 100000 in
theorem k_L_areRiders (l : Launch) (dC : Nat → ClassId) (dI : Nat → Nat → Nat) (cs : Nat → ClassId) (ad : Nat → Nat) (en : Nat → Nat) (b1 b2 b3 : Nat) (sz : Nat) (S1 : T1) (S2 : T1) (S3 : T1) (S4 : T5) (r : Int32) (u4 : T5) (hR : fL_areRiders S1 S2 S3 S4 = some (r, u4)) : Met l yL_areRiders wsL_areRiders ({ frames := 5, cells := 0, slots := 0, locals := 110 } : Room) (va_Pc [.ref (ad 0), .ref b1, .ref b2, .ref b3] (pW dC dI (tyL cs) (fl [[(b1, .inl (cs 0, 8, .inl S1))], [(b2, .inl (cs 0, 40, .inl S2))], [(b3, .inl (cs 0, 32, .inl S3))], (w_X10 ad (0) cs en S4)]) sz)) (QI dC dI (tyL cs) (va_A (fl [[(b1, .inl (cs 0, 8, .inl S1))], [(b2, .inl (cs 0, 40, .inl S2))], [(b3, .inl (cs 0, 32, .inl S3))], (w_X10 ad (0) cs en S4)]) sz) (fl [[(b1, .inl (cs 0, 8, .inl S1))], [(b2, .inl (cs 0, 40, .inl S2))], [(b3, .inl (cs 0, 32, .inl S3))], (w_X10 ad (0) cs en u4)]) r) 0 0 (va_A (fl [[(b1, .inl (cs 0, 8, .inl S1))], [(b2, .inl (cs 0, 40, .inl S2))], [(b3, .inl (cs 0, 32, .inl S3))], (w_X10 ad (0) cs en S4)]) sz) := by
  refine mt_ofC (own := RL) (cc := cL_areRiders) (maxL := 9) (ret := (some .boolean)) (Qc := fun A => QI dC dI (tyL cs) A (fl [[(b1, .inl (cs 0, 8, .inl S1))], [(b2, .inl (cs 0, 40, .inl S2))], [(b3, .inl (cs 0, 32, .inl S3))], (w_X10 ad (0) cs en u4)]) r) rfl (by decide) rfl (Nat.le_of_ble_eq_true rfl) (fun p e s m below meth c A ls hsz hx hb hr hts hown hlocks hml hA hK hP hD hS hl => ?_)
  subst hsz
  have hl : lv_has ls 9 [(0, .ref (ad 0)), (1, .ref b1), (2, .ref b2), (3, .ref b3)] := hl
  have hB325 : ∀ (n325 : Nat), ∀ (S4_325h : T5) (v4_325 : Int32) (v5_325 : Int32) (v6_325 : Int32) (v7_325 : Int32) (v8_325 : Int32) (H : Heap) (locs : List Loc) (ls : Array Slot), fL_areRiders_325 S1 S2 S3 n325 S4_325h v4_325 v5_325 v6_325 v7_325 v8_325 = some (r, u4) → va_P (dC, dI) vwCl (fl [[(b1, .inl (cs 0, 8, .inl S1))], [(b2, .inl (cs 0, 40, .inl S2))], [(b3, .inl (cs 0, 32, .inl S3))], (w_X10 ad (0) cs en S4_325h)]) H → va_D A (fl [[(b1, .inl (cs 0, 8, .inl S1))], [(b2, .inl (cs 0, 40, .inl S2))], [(b3, .inl (cs 0, 32, .inl S3))], (w_X10 ad (0) cs en S4_325h)]) → va_S A s.heap H locs → lv_has ls 9 [(0, .ref (ad 0)), (1, .ref b1), (4, .int v4_325), (5, .int v5_325), (6, .int v6_325), (7, .int v7_325), (8, .int v8_325)] → W p l e (headSpec wsL_areRiders ({ frames := 5, cells := 0, slots := 0, locals := 110 } : Room)).room s m ([.ref (ad 0), .ref b1, .ref b2, .ref b3] : List Value).toArray below meth c H locs 0 0 (MQ below (QI dC dI (tyL cs) A (fl [[(b1, .inl (cs 0, 8, .inl S1))], [(b2, .inl (cs 0, 40, .inl S2))], [(b3, .inl (cs 0, 32, .inl S3))], (w_X10 ad (0) cs en u4)]) r) ([.ref (ad 0), .ref b1, .ref b2, .ref b3] : List Value).toArray s 0 0 A) (F0 m 325 ls []) := by
    intro n325
    induction n325 with
    | zero =>
      intro S4_325h v4_325 v5_325 v6_325 v7_325 v8_325 H locs ls hR hP hD hS hl
      exact nn_e hR
    | succ n325 hI325 =>
      intro S4_325h v4_325 v5_325 v6_325 v7_325 v8_325 H locs ls hR hP hD hS hl
      rw [fL_areRiders_325] at hR
      refine lv_iload hx hb dL_areRiders_325 (lv_at hl 6 rfl) ?_
      refine lv_aload_n hx hb dL_areRiders_327 rfl (lv_at hl 1 rfl) ?_
      refine lv_iconst (v := 0) hx hb dL_areRiders_328 ic_0 ?_
      refine va_iald hx hb hK hP 0 0 rfl rfl vi_0_8 dL_areRiders_329 ?_
      refine lv_icmp_ge (tgt := 351) hx hb dL_areRiders_330 (by decide) (fun c330 => ?_) (fun c330 => ?_)
      · replace hR := it_t hR c330
        refine lv_iload hx hb dL_areRiders_351 (lv_at hl 2 rfl) ?_
        refine lv_if_eq (tgt := 378) hx hb dL_areRiders_353 (by decide) (fun c353 => ?_) (fun c353 => ?_)
        · replace hR := it_t hR c353
          refine lv_iconst (v := 0) hx hb dL_areRiders_378 ic_0 ?_
          replace hR := Option.some.inj hR
          obtain ⟨e9, hR⟩ := Prod.mk.inj hR
          have eu4 := hR
          replace hP : va_P (dC, dI) vwCl (fl [[(b1, .inl (cs 0, 8, .inl S1))], [(b2, .inl (cs 0, 40, .inl S2))], [(b3, .inl (cs 0, 32, .inl S3))], (w_X10 ad (0) cs en u4)]) H := by rw [← eu4]; exact hP
          replace hD : va_D A (fl [[(b1, .inl (cs 0, 8, .inl S1))], [(b2, .inl (cs 0, 40, .inl S2))], [(b3, .inl (cs 0, 32, .inl S3))], (w_X10 ad (0) cs en u4)]) := by rw [← eu4]; exact hD
          exact W.zret (ty := .boolean) hx hb hr (by decide) (fun t ht hW => ⟨⟨_, (), rfl, e9, by rw [ht]; exact hP, va_K.moved hW.alike hK, hD⟩, hS.F ht⟩) hS.2.2 dL_areRiders_379
        · replace hR := it_f hR c353
          refine lv_iload hx hb dL_areRiders_356 (lv_at hl 3 rfl) ?_
          refine lv_aload_n hx hb dL_areRiders_358 rfl (lv_at hl 0 rfl) ?_
          refine lv_bipush (v := 11) hx hb dL_areRiders_359 bp_11 ?_
          replace hR := bd_e hR
          obtain ⟨q361, gq361, hR⟩ := hR
          refine cm_Vi (As := [.int (11 : Int32)]) (rest := [.int v5_325]) (L := [[(b1, .inl (cs 0, 8, .inl S1))], [(b2, .inl (cs 0, 40, .inl S2))], [(b3, .inl (cs 0, 32, .inl S3))], (w_X10 ad (0) cs en S4_325h)]) (L' := [[(b1, .inl (cs 0, 8, .inl S1))], [(b2, .inl (cs 0, 40, .inl S2))], [(b3, .inl (cs 0, 32, .inl S3))], (w_X10 ad (0) cs en S4_325h)]) (Wc := [(w_X10 ad (0) cs en S4_325h)]) (Wc' := [(w_X10 ad (0) cs en S4_325h)]) (is := [3]) (js := [0, 1, 2]) ⟨hx, hb, hml, hown, hts⟩ (k_X10_count l dC dI cs ad en H.size S4_325h (11 : Int32) q361 gq361) (cwV 1 hts gL_areRiders_X10_count rfl rfl rfl cd_X10_count ⟨Nat.le_of_ble_eq_true rfl, Nat.le_of_ble_eq_true rfl⟩) hK hP hD hS hA ⟨rfl, rfl, rfl, rfl, rfl, rfl⟩ (jn_nd (is := [3]) hD rfl rfl) 3 8 rfl rfl rfl rfl rfl hl.1 (Nat.le_of_ble_eq_true rfl) dL_areRiders_361 ⟨Nat.le_of_ble_eq_true rfl, Nat.le_of_ble_eq_true rfl⟩ (fun H361 locs361 hP' hD' hS' => ?_)
          replace hS := hS'
          replace hP : va_P (dC, dI) vwCl (fl [[(b1, .inl (cs 0, 8, .inl S1))], [(b2, .inl (cs 0, 40, .inl S2))], [(b3, .inl (cs 0, 32, .inl S3))], (w_X10 ad (0) cs en S4_325h)]) H361 := hP'
          replace hD : va_D A (fl [[(b1, .inl (cs 0, 8, .inl S1))], [(b2, .inl (cs 0, 40, .inl S2))], [(b3, .inl (cs 0, 32, .inl S3))], (w_X10 ad (0) cs en S4_325h)]) := hD'
          clear hP' hD' hS'
          refine lv_icmp_ne (tgt := 378) hx hb dL_areRiders_364 (by decide) (fun c364 => ?_) (fun c364 => ?_)
          · replace hR := it_f hR c364
            refine lv_iconst (v := 0) hx hb dL_areRiders_378 ic_0 ?_
            replace hR := Option.some.inj hR
            obtain ⟨e9, hR⟩ := Prod.mk.inj hR
            have eu4 := hR
            replace hP : va_P (dC, dI) vwCl (fl [[(b1, .inl (cs 0, 8, .inl S1))], [(b2, .inl (cs 0, 40, .inl S2))], [(b3, .inl (cs 0, 32, .inl S3))], (w_X10 ad (0) cs en u4)]) H361 := by rw [← eu4]; exact hP
            replace hD : va_D A (fl [[(b1, .inl (cs 0, 8, .inl S1))], [(b2, .inl (cs 0, 40, .inl S2))], [(b3, .inl (cs 0, 32, .inl S3))], (w_X10 ad (0) cs en u4)]) := by rw [← eu4]; exact hD
            exact W.zret (ty := .boolean) hx hb hr (by decide) (fun t ht hW => ⟨⟨_, (), rfl, e9, by rw [ht]; exact hP, va_K.moved hW.alike hK, hD⟩, hS.F ht⟩) hS.2.2 dL_areRiders_379
          · replace hR := it_t hR c364
            refine lv_iload hx hb dL_areRiders_367 (lv_at hl 5 rfl) ?_
            refine lv_iload hx hb dL_areRiders_369 (lv_at hl 4 rfl) ?_
            refine lv_icmp_ne (tgt := 378) hx hb dL_areRiders_371 (by decide) (fun c371 => ?_) (fun c371 => ?_)
            · replace hR := it_f hR c371
              refine lv_iconst (v := 0) hx hb dL_areRiders_378 ic_0 ?_
              replace hR := Option.some.inj hR
              obtain ⟨e9, hR⟩ := Prod.mk.inj hR
              have eu4 := hR
              replace hP : va_P (dC, dI) vwCl (fl [[(b1, .inl (cs 0, 8, .inl S1))], [(b2, .inl (cs 0, 40, .inl S2))], [(b3, .inl (cs 0, 32, .inl S3))], (w_X10 ad (0) cs en u4)]) H361 := by rw [← eu4]; exact hP
              replace hD : va_D A (fl [[(b1, .inl (cs 0, 8, .inl S1))], [(b2, .inl (cs 0, 40, .inl S2))], [(b3, .inl (cs 0, 32, .inl S3))], (w_X10 ad (0) cs en u4)]) := by rw [← eu4]; exact hD
              exact W.zret (ty := .boolean) hx hb hr (by decide) (fun t ht hW => ⟨⟨_, (), rfl, e9, by rw [ht]; exact hP, va_K.moved hW.alike hK, hD⟩, hS.F ht⟩) hS.2.2 dL_areRiders_379
            · replace hR := it_t hR c371
              refine lv_iconst (v := 1) hx hb dL_areRiders_374 ic_1 ?_
              refine lv_goto (tgt := 379) hx hb dL_areRiders_375 (by decide) ?_
              replace hR := Option.some.inj hR
              obtain ⟨e9, hR⟩ := Prod.mk.inj hR
              have eu4 := hR
              replace hP : va_P (dC, dI) vwCl (fl [[(b1, .inl (cs 0, 8, .inl S1))], [(b2, .inl (cs 0, 40, .inl S2))], [(b3, .inl (cs 0, 32, .inl S3))], (w_X10 ad (0) cs en u4)]) H361 := by rw [← eu4]; exact hP
              replace hD : va_D A (fl [[(b1, .inl (cs 0, 8, .inl S1))], [(b2, .inl (cs 0, 40, .inl S2))], [(b3, .inl (cs 0, 32, .inl S3))], (w_X10 ad (0) cs en u4)]) := by rw [← eu4]; exact hD
              exact W.zret (ty := .boolean) hx hb hr (by decide) (fun t ht hW => ⟨⟨_, (), rfl, e9, by rw [ht]; exact hP, va_K.moved hW.alike hK, hD⟩, hS.F ht⟩) hS.2.2 dL_areRiders_379
      · replace hR := it_f hR c330
        refine lv_iload hx hb dL_areRiders_333 (lv_at hl 5 rfl) ?_
        refine lv_aload_n hx hb dL_areRiders_335 rfl (lv_at hl 0 rfl) ?_
        refine lv_iload hx hb dL_areRiders_336 (lv_at hl 6 rfl) ?_
        refine lv_iconst (v := 5) hx hb dL_areRiders_338 ic_5 ?_
        replace hR := bd_e hR
        obtain ⟨q339, gq339, hR⟩ := hR
        refine cm_Vi (As := [.int v8_325, .int (5 : Int32)]) (rest := [.int v7_325]) (L := [[(b1, .inl (cs 0, 8, .inl S1))], [(b2, .inl (cs 0, 40, .inl S2))], [(b3, .inl (cs 0, 32, .inl S3))], (w_X10 ad (0) cs en S4_325h)]) (L' := [[(b1, .inl (cs 0, 8, .inl S1))], [(b2, .inl (cs 0, 40, .inl S2))], [(b3, .inl (cs 0, 32, .inl S3))], (w_X10 ad (0) cs en q339.2)]) (Wc := [(w_X10 ad (0) cs en S4_325h)]) (Wc' := [(w_X10 ad (0) cs en q339.2)]) (is := [3]) (js := [0, 1, 2]) ⟨hx, hb, hml, hown, hts⟩ (k_X10_stationOf l dC dI cs ad en H.size S4_325h v8_325 (5 : Int32) q339.1 q339.2 gq339) (cwV 2 hts gL_areRiders_X10_stationOf rfl rfl rfl cd_X10_stationOf ⟨Nat.le_of_ble_eq_true rfl, Nat.le_of_ble_eq_true rfl⟩) hK hP hD hS hA (jx_3 (w_X10_fst ad 0 cs en _ _)) (jn_nd (is := [3]) hD rfl rfl) 3 8 rfl rfl rfl rfl rfl hl.1 (Nat.le_of_ble_eq_true rfl) dL_areRiders_339 ⟨Nat.le_of_ble_eq_true rfl, Nat.le_of_ble_eq_true rfl⟩ (fun H339 locs339 hP' hD' hS' => ?_)
        replace hS := hS'
        replace hP : va_P (dC, dI) vwCl (fl [[(b1, .inl (cs 0, 8, .inl S1))], [(b2, .inl (cs 0, 40, .inl S2))], [(b3, .inl (cs 0, 32, .inl S3))], (w_X10 ad (0) cs en q339.2)]) H339 := hP'
        replace hD : va_D A (fl [[(b1, .inl (cs 0, 8, .inl S1))], [(b2, .inl (cs 0, 40, .inl S2))], [(b3, .inl (cs 0, 32, .inl S3))], (w_X10 ad (0) cs en q339.2)]) := hD'
        clear hP' hD' hS'
        refine lv_iadd hx hb dL_areRiders_342 ?_
        refine lv_istore (lv' := [(7, .int (v7_325 + q339.1)), (0, .ref (ad 0)), (1, .ref b1), (4, .int v4_325), (5, .int v5_325), (6, .int v6_325), (8, .int v8_325)]) hx hb dL_areRiders_343 hl (Nat.le_of_ble_eq_true rfl) rfl (fun ls hl => ?_)
        refine lv_iinc (v := (v8_325 + 1)) (lv' := [(8, .int (v8_325 + 1)), (7, .int (v7_325 + q339.1)), (0, .ref (ad 0)), (1, .ref b1), (4, .int v4_325), (5, .int v5_325), (6, .int v6_325)]) hx hb dL_areRiders_345 hl (k := 6) rfl rfl (Nat.le_of_ble_eq_true rfl) rfl (fun ls hl => ?_)
        refine lv_goto (tgt := 325) hx hb dL_areRiders_348 (by decide) ?_
        exact hI325 q339.2 v4_325 v5_325 v6_325 (v7_325 + q339.1) (v8_325 + 1) H339 _ ls hR hP hD hS (lv_sub hl [2, 3, 4, 5, 6, 1, 0] rfl)
  have hB319 : ∀ (S4_319h : T5) (v4_319 : Int32) (v5_319 : Int32) (v6_319 : Int32) (H : Heap) (locs : List Loc) (ls : Array Slot), fL_areRiders_319 S1 S2 S3 S4_319h v4_319 v5_319 v6_319 = some (r, u4) → va_P (dC, dI) vwCl (fl [[(b1, .inl (cs 0, 8, .inl S1))], [(b2, .inl (cs 0, 40, .inl S2))], [(b3, .inl (cs 0, 32, .inl S3))], (w_X10 ad (0) cs en S4_319h)]) H → va_D A (fl [[(b1, .inl (cs 0, 8, .inl S1))], [(b2, .inl (cs 0, 40, .inl S2))], [(b3, .inl (cs 0, 32, .inl S3))], (w_X10 ad (0) cs en S4_319h)]) → va_S A s.heap H locs → lv_has ls 9 [(0, .ref (ad 0)), (1, .ref b1), (4, .int v4_319), (5, .int v5_319), (6, .int v6_319)] → W p l e (headSpec wsL_areRiders ({ frames := 5, cells := 0, slots := 0, locals := 110 } : Room)).room s m ([.ref (ad 0), .ref b1, .ref b2, .ref b3] : List Value).toArray below meth c H locs 0 0 (MQ below (QI dC dI (tyL cs) A (fl [[(b1, .inl (cs 0, 8, .inl S1))], [(b2, .inl (cs 0, 40, .inl S2))], [(b3, .inl (cs 0, 32, .inl S3))], (w_X10 ad (0) cs en u4)]) r) ([.ref (ad 0), .ref b1, .ref b2, .ref b3] : List Value).toArray s 0 0 A) (F0 m 319 ls []) := by
    intro S4_319h v4_319 v5_319 v6_319 H locs ls hR hP hD hS hl
    refine lv_iconst (v := 0) hx hb dL_areRiders_319 ic_0 ?_
    refine lv_istore (lv' := [(7, .int (0 : Int32)), (0, .ref (ad 0)), (1, .ref b1), (4, .int v4_319), (5, .int v5_319), (6, .int v6_319)]) hx hb dL_areRiders_320 hl (Nat.le_of_ble_eq_true rfl) rfl (fun ls hl => ?_)
    refine lv_iconst (v := 0) hx hb dL_areRiders_322 ic_0 ?_
    refine lv_istore (lv' := [(8, .int (0 : Int32)), (7, .int (0 : Int32)), (0, .ref (ad 0)), (1, .ref b1), (4, .int v4_319), (5, .int v5_319), (6, .int v6_319)]) hx hb dL_areRiders_323 hl (Nat.le_of_ble_eq_true rfl) rfl (fun ls hl => ?_)
    exact hB325 fuel S4_319h v4_319 v5_319 v6_319 (0 : Int32) (0 : Int32) H _ ls hR hP hD hS (lv_sub hl [2, 3, 4, 5, 6, 1, 0] rfl)
  have hB28 : ∀ (n28 : Nat), ∀ (S4_28h : T5) (v4_28 : Int32) (v5_28 : Int32) (v6_28 : Int32) (v7_28 : Int32) (H : Heap) (locs : List Loc) (ls : Array Slot), fL_areRiders_28 S1 S2 S3 n28 S4_28h v4_28 v5_28 v6_28 v7_28 = some (r, u4) → va_P (dC, dI) vwCl (fl [[(b1, .inl (cs 0, 8, .inl S1))], [(b2, .inl (cs 0, 40, .inl S2))], [(b3, .inl (cs 0, 32, .inl S3))], (w_X10 ad (0) cs en S4_28h)]) H → va_D A (fl [[(b1, .inl (cs 0, 8, .inl S1))], [(b2, .inl (cs 0, 40, .inl S2))], [(b3, .inl (cs 0, 32, .inl S3))], (w_X10 ad (0) cs en S4_28h)]) → va_S A s.heap H locs → lv_has ls 9 [(0, .ref (ad 0)), (1, .ref b1), (2, .ref b2), (3, .ref b3), (4, .int v4_28), (5, .int v5_28), (6, .int v6_28), (7, .int v7_28)] → W p l e (headSpec wsL_areRiders ({ frames := 5, cells := 0, slots := 0, locals := 110 } : Room)).room s m ([.ref (ad 0), .ref b1, .ref b2, .ref b3] : List Value).toArray below meth c H locs 0 0 (MQ below (QI dC dI (tyL cs) A (fl [[(b1, .inl (cs 0, 8, .inl S1))], [(b2, .inl (cs 0, 40, .inl S2))], [(b3, .inl (cs 0, 32, .inl S3))], (w_X10 ad (0) cs en u4)]) r) ([.ref (ad 0), .ref b1, .ref b2, .ref b3] : List Value).toArray s 0 0 A) (F0 m 28 ls []) := by
    intro n28
    induction n28 with
    | zero =>
      intro S4_28h v4_28 v5_28 v6_28 v7_28 H locs ls hR hP hD hS hl
      exact nn_e hR
    | succ n28 hI28 =>
      have hB311 : ∀ (S4_311h : T5) (v5_311 : Int32) (v6_311 : Int32) (v7_311 : Int32) (t0_311 : Int32) (H : Heap) (locs : List Loc) (ls : Array Slot), fL_areRiders_311 (fL_areRiders_28 S1 S2 S3 n28) S1 S2 S3 S4_311h v5_311 v6_311 v7_311 t0_311 = some (r, u4) → va_P (dC, dI) vwCl (fl [[(b1, .inl (cs 0, 8, .inl S1))], [(b2, .inl (cs 0, 40, .inl S2))], [(b3, .inl (cs 0, 32, .inl S3))], (w_X10 ad (0) cs en S4_311h)]) H → va_D A (fl [[(b1, .inl (cs 0, 8, .inl S1))], [(b2, .inl (cs 0, 40, .inl S2))], [(b3, .inl (cs 0, 32, .inl S3))], (w_X10 ad (0) cs en S4_311h)]) → va_S A s.heap H locs → lv_has ls 9 [(0, .ref (ad 0)), (1, .ref b1), (2, .ref b2), (3, .ref b3), (5, .int v5_311), (6, .int v6_311), (7, .int v7_311)] → W p l e (headSpec wsL_areRiders ({ frames := 5, cells := 0, slots := 0, locals := 110 } : Room)).room s m ([.ref (ad 0), .ref b1, .ref b2, .ref b3] : List Value).toArray below meth c H locs 0 0 (MQ below (QI dC dI (tyL cs) A (fl [[(b1, .inl (cs 0, 8, .inl S1))], [(b2, .inl (cs 0, 40, .inl S2))], [(b3, .inl (cs 0, 32, .inl S3))], (w_X10 ad (0) cs en u4)]) r) ([.ref (ad 0), .ref b1, .ref b2, .ref b3] : List Value).toArray s 0 0 A) (F0 m 311 ls [.int t0_311]) := by
        intro S4_311h v5_311 v6_311 v7_311 t0_311 H locs ls hR hP hD hS hl
        refine lv_istore (lv' := [(4, .int t0_311), (0, .ref (ad 0)), (1, .ref b1), (2, .ref b2), (3, .ref b3), (5, .int v5_311), (6, .int v6_311), (7, .int v7_311)]) hx hb dL_areRiders_311 hl (Nat.le_of_ble_eq_true rfl) rfl (fun ls hl => ?_)
        refine lv_iinc (v := (v7_311 + 1)) (lv' := [(7, .int (v7_311 + 1)), (4, .int t0_311), (0, .ref (ad 0)), (1, .ref b1), (2, .ref b2), (3, .ref b3), (5, .int v5_311), (6, .int v6_311)]) hx hb dL_areRiders_313 hl (k := 7) rfl rfl (Nat.le_of_ble_eq_true rfl) rfl (fun ls hl => ?_)
        refine lv_goto (tgt := 28) hx hb dL_areRiders_316 (by decide) ?_
        exact hI28 S4_311h t0_311 v5_311 v6_311 (v7_311 + 1) H _ ls hR hP hD hS (lv_sub hl [2, 3, 4, 5, 1, 6, 7, 0] rfl)
      have hB310 : ∀ (S4_310h : T5) (v5_310 : Int32) (v6_310 : Int32) (v7_310 : Int32) (H : Heap) (locs : List Loc) (ls : Array Slot), fL_areRiders_310 (fL_areRiders_28 S1 S2 S3 n28) S1 S2 S3 S4_310h v5_310 v6_310 v7_310 = some (r, u4) → va_P (dC, dI) vwCl (fl [[(b1, .inl (cs 0, 8, .inl S1))], [(b2, .inl (cs 0, 40, .inl S2))], [(b3, .inl (cs 0, 32, .inl S3))], (w_X10 ad (0) cs en S4_310h)]) H → va_D A (fl [[(b1, .inl (cs 0, 8, .inl S1))], [(b2, .inl (cs 0, 40, .inl S2))], [(b3, .inl (cs 0, 32, .inl S3))], (w_X10 ad (0) cs en S4_310h)]) → va_S A s.heap H locs → lv_has ls 9 [(0, .ref (ad 0)), (1, .ref b1), (2, .ref b2), (3, .ref b3), (5, .int v5_310), (6, .int v6_310), (7, .int v7_310)] → W p l e (headSpec wsL_areRiders ({ frames := 5, cells := 0, slots := 0, locals := 110 } : Room)).room s m ([.ref (ad 0), .ref b1, .ref b2, .ref b3] : List Value).toArray below meth c H locs 0 0 (MQ below (QI dC dI (tyL cs) A (fl [[(b1, .inl (cs 0, 8, .inl S1))], [(b2, .inl (cs 0, 40, .inl S2))], [(b3, .inl (cs 0, 32, .inl S3))], (w_X10 ad (0) cs en u4)]) r) ([.ref (ad 0), .ref b1, .ref b2, .ref b3] : List Value).toArray s 0 0 A) (F0 m 310 ls []) := by
        intro S4_310h v5_310 v6_310 v7_310 H locs ls hR hP hD hS hl
        refine lv_iconst (v := 0) hx hb dL_areRiders_310 ic_0 ?_
        exact hB311 S4_310h v5_310 v6_310 v7_310 (0 : Int32) H _ ls hR hP hD hS (lv_sub hl [0, 1, 2, 3, 4, 5, 6] rfl)
      have hB253 : ∀ (S4_253h : T5) (v5_253 : Int32) (v6_253 : Int32) (v7_253 : Int32) (t0_253 : Int32) (t1_253 : Int32) (H : Heap) (locs : List Loc) (ls : Array Slot), fL_areRiders_253 (fL_areRiders_28 S1 S2 S3 n28) S1 S2 S3 S4_253h v5_253 v6_253 v7_253 t0_253 t1_253 = some (r, u4) → va_P (dC, dI) vwCl (fl [[(b1, .inl (cs 0, 8, .inl S1))], [(b2, .inl (cs 0, 40, .inl S2))], [(b3, .inl (cs 0, 32, .inl S3))], (w_X10 ad (0) cs en S4_253h)]) H → va_D A (fl [[(b1, .inl (cs 0, 8, .inl S1))], [(b2, .inl (cs 0, 40, .inl S2))], [(b3, .inl (cs 0, 32, .inl S3))], (w_X10 ad (0) cs en S4_253h)]) → va_S A s.heap H locs → lv_has ls 9 [(0, .ref (ad 0)), (1, .ref b1), (2, .ref b2), (3, .ref b3), (5, .int v5_253), (6, .int v6_253), (7, .int v7_253)] → W p l e (headSpec wsL_areRiders ({ frames := 5, cells := 0, slots := 0, locals := 110 } : Room)).room s m ([.ref (ad 0), .ref b1, .ref b2, .ref b3] : List Value).toArray below meth c H locs 0 0 (MQ below (QI dC dI (tyL cs) A (fl [[(b1, .inl (cs 0, 8, .inl S1))], [(b2, .inl (cs 0, 40, .inl S2))], [(b3, .inl (cs 0, 32, .inl S3))], (w_X10 ad (0) cs en u4)]) r) ([.ref (ad 0), .ref b1, .ref b2, .ref b3] : List Value).toArray s 0 0 A) (F0 m 253 ls [.int t1_253, .int t0_253]) := by
        intro S4_253h v5_253 v6_253 v7_253 t0_253 t1_253 H locs ls hR hP hD hS hl
        refine lv_icmp_ne (tgt := 310) hx hb dL_areRiders_253 (by decide) (fun c253 => ?_) (fun c253 => ?_)
        · replace hR := it_f hR c253
          exact hB310 S4_253h v5_253 v6_253 v7_253 H _ ls hR hP hD hS (lv_sub hl [0, 1, 2, 3, 4, 5, 6] rfl)
        · replace hR := it_t hR c253
          refine lv_aload_n hx hb dL_areRiders_256 rfl (lv_at hl 0 rfl) ?_
          refine lv_iload hx hb dL_areRiders_257 (lv_at hl 6 rfl) ?_
          refine lv_bipush (v := 6) hx hb dL_areRiders_259 bp_6 ?_
          replace hR := bd_e hR
          obtain ⟨q261, gq261, hR⟩ := hR
          refine cm_Vi (As := [.int v7_253, .int (6 : Int32)]) (rest := []) (L := [[(b1, .inl (cs 0, 8, .inl S1))], [(b2, .inl (cs 0, 40, .inl S2))], [(b3, .inl (cs 0, 32, .inl S3))], (w_X10 ad (0) cs en S4_253h)]) (L' := [[(b1, .inl (cs 0, 8, .inl S1))], [(b2, .inl (cs 0, 40, .inl S2))], [(b3, .inl (cs 0, 32, .inl S3))], (w_X10 ad (0) cs en S4_253h)]) (Wc := [(w_X10 ad (0) cs en S4_253h)]) (Wc' := [(w_X10 ad (0) cs en S4_253h)]) (is := [3]) (js := [0, 1, 2]) ⟨hx, hb, hml, hown, hts⟩ (k_X10_riderOf l dC dI cs ad en H.size S4_253h v7_253 (6 : Int32) q261 gq261) (cwV 2 hts gL_areRiders_X10_riderOf rfl rfl rfl cd_X10_riderOf ⟨Nat.le_of_ble_eq_true rfl, Nat.le_of_ble_eq_true rfl⟩) hK hP hD hS hA ⟨rfl, rfl, rfl, rfl, rfl, rfl⟩ (jn_nd (is := [3]) hD rfl rfl) 3 8 rfl rfl rfl rfl rfl hl.1 (Nat.le_of_ble_eq_true rfl) dL_areRiders_261 ⟨Nat.le_of_ble_eq_true rfl, Nat.le_of_ble_eq_true rfl⟩ (fun H261 locs261 hP' hD' hS' => ?_)
          replace hS := hS'
          replace hP : va_P (dC, dI) vwCl (fl [[(b1, .inl (cs 0, 8, .inl S1))], [(b2, .inl (cs 0, 40, .inl S2))], [(b3, .inl (cs 0, 32, .inl S3))], (w_X10 ad (0) cs en S4_253h)]) H261 := hP'
          replace hD : va_D A (fl [[(b1, .inl (cs 0, 8, .inl S1))], [(b2, .inl (cs 0, 40, .inl S2))], [(b3, .inl (cs 0, 32, .inl S3))], (w_X10 ad (0) cs en S4_253h)]) := hD'
          clear hP' hD' hS'
          refine lv_aload_n hx hb dL_areRiders_264 rfl (lv_at hl 3 rfl) ?_
          refine lv_iconst (v := 4) hx hb dL_areRiders_265 ic_4 ?_
          refine lv_iload hx hb dL_areRiders_266 (lv_at hl 6 rfl) ?_
          refine lv_imul hx hb dL_areRiders_268 ?_
          refine lv_iconst (v := 2) hx hb dL_areRiders_269 ic_2 ?_
          refine lv_iadd hx hb dL_areRiders_270 ?_
          replace hR := gi_e hR
          obtain ⟨i271, hR⟩ := hR
          refine va_iald hx hb hK hP 2 0 rfl rfl i271 dL_areRiders_271 ?_
          refine lv_icmp_ne (tgt := 310) hx hb dL_areRiders_272 (by decide) (fun c272 => ?_) (fun c272 => ?_)
          · replace hR := it_f hR c272
            exact hB310 S4_253h v5_253 v6_253 v7_253 H261 _ ls hR hP hD hS (lv_sub hl [0, 1, 2, 3, 4, 5, 6] rfl)
          · replace hR := it_t hR c272
            refine lv_aload_n hx hb dL_areRiders_275 rfl (lv_at hl 0 rfl) ?_
            refine lv_iload hx hb dL_areRiders_276 (lv_at hl 6 rfl) ?_
            refine lv_bipush (v := 7) hx hb dL_areRiders_278 bp_7 ?_
            replace hR := bd_e hR
            obtain ⟨q280, gq280, hR⟩ := hR
            refine cm_Vi (As := [.int v7_253, .int (7 : Int32)]) (rest := []) (L := [[(b1, .inl (cs 0, 8, .inl S1))], [(b2, .inl (cs 0, 40, .inl S2))], [(b3, .inl (cs 0, 32, .inl S3))], (w_X10 ad (0) cs en S4_253h)]) (L' := [[(b1, .inl (cs 0, 8, .inl S1))], [(b2, .inl (cs 0, 40, .inl S2))], [(b3, .inl (cs 0, 32, .inl S3))], (w_X10 ad (0) cs en S4_253h)]) (Wc := [(w_X10 ad (0) cs en S4_253h)]) (Wc' := [(w_X10 ad (0) cs en S4_253h)]) (is := [3]) (js := [0, 1, 2]) ⟨hx, hb, hml, hown, hts⟩ (k_X10_riderOf l dC dI cs ad en H261.size S4_253h v7_253 (7 : Int32) q280 gq280) (cwV 2 hts gL_areRiders_X10_riderOf rfl rfl rfl cd_X10_riderOf ⟨Nat.le_of_ble_eq_true rfl, Nat.le_of_ble_eq_true rfl⟩) hK hP hD hS hA ⟨rfl, rfl, rfl, rfl, rfl, rfl⟩ (jn_nd (is := [3]) hD rfl rfl) 3 8 rfl rfl rfl rfl rfl hl.1 (Nat.le_of_ble_eq_true rfl) dL_areRiders_280 ⟨Nat.le_of_ble_eq_true rfl, Nat.le_of_ble_eq_true rfl⟩ (fun H280 locs280 hP' hD' hS' => ?_)
            replace hS := hS'
            replace hP : va_P (dC, dI) vwCl (fl [[(b1, .inl (cs 0, 8, .inl S1))], [(b2, .inl (cs 0, 40, .inl S2))], [(b3, .inl (cs 0, 32, .inl S3))], (w_X10 ad (0) cs en S4_253h)]) H280 := hP'
            replace hD : va_D A (fl [[(b1, .inl (cs 0, 8, .inl S1))], [(b2, .inl (cs 0, 40, .inl S2))], [(b3, .inl (cs 0, 32, .inl S3))], (w_X10 ad (0) cs en S4_253h)]) := hD'
            clear hP' hD' hS'
            refine lv_aload_n hx hb dL_areRiders_283 rfl (lv_at hl 3 rfl) ?_
            refine lv_iconst (v := 4) hx hb dL_areRiders_284 ic_4 ?_
            refine lv_iload hx hb dL_areRiders_285 (lv_at hl 6 rfl) ?_
            refine lv_imul hx hb dL_areRiders_287 ?_
            refine lv_iconst (v := 3) hx hb dL_areRiders_288 ic_3 ?_
            refine lv_iadd hx hb dL_areRiders_289 ?_
            replace hR := gi_e hR
            obtain ⟨i290, hR⟩ := hR
            refine va_iald hx hb hK hP 2 0 rfl rfl i290 dL_areRiders_290 ?_
            refine lv_icmp_ne (tgt := 310) hx hb dL_areRiders_291 (by decide) (fun c291 => ?_) (fun c291 => ?_)
            · replace hR := it_f hR c291
              exact hB310 S4_253h v5_253 v6_253 v7_253 H280 _ ls hR hP hD hS (lv_sub hl [0, 1, 2, 3, 4, 5, 6] rfl)
            · replace hR := it_t hR c291
              refine lv_aload_n hx hb dL_areRiders_294 rfl (lv_at hl 0 rfl) ?_
              refine lv_iload hx hb dL_areRiders_295 (lv_at hl 6 rfl) ?_
              refine lv_bipush (v := 8) hx hb dL_areRiders_297 bp_8 ?_
              replace hR := bd_e hR
              obtain ⟨q299, gq299, hR⟩ := hR
              refine cm_Vi (As := [.int v7_253, .int (8 : Int32)]) (rest := []) (L := [[(b1, .inl (cs 0, 8, .inl S1))], [(b2, .inl (cs 0, 40, .inl S2))], [(b3, .inl (cs 0, 32, .inl S3))], (w_X10 ad (0) cs en S4_253h)]) (L' := [[(b1, .inl (cs 0, 8, .inl S1))], [(b2, .inl (cs 0, 40, .inl S2))], [(b3, .inl (cs 0, 32, .inl S3))], (w_X10 ad (0) cs en S4_253h)]) (Wc := [(w_X10 ad (0) cs en S4_253h)]) (Wc' := [(w_X10 ad (0) cs en S4_253h)]) (is := [3]) (js := [0, 1, 2]) ⟨hx, hb, hml, hown, hts⟩ (k_X10_riderOf l dC dI cs ad en H280.size S4_253h v7_253 (8 : Int32) q299 gq299) (cwV 2 hts gL_areRiders_X10_riderOf rfl rfl rfl cd_X10_riderOf ⟨Nat.le_of_ble_eq_true rfl, Nat.le_of_ble_eq_true rfl⟩) hK hP hD hS hA ⟨rfl, rfl, rfl, rfl, rfl, rfl⟩ (jn_nd (is := [3]) hD rfl rfl) 3 8 rfl rfl rfl rfl rfl hl.1 (Nat.le_of_ble_eq_true rfl) dL_areRiders_299 ⟨Nat.le_of_ble_eq_true rfl, Nat.le_of_ble_eq_true rfl⟩ (fun H299 locs299 hP' hD' hS' => ?_)
              replace hS := hS'
              replace hP : va_P (dC, dI) vwCl (fl [[(b1, .inl (cs 0, 8, .inl S1))], [(b2, .inl (cs 0, 40, .inl S2))], [(b3, .inl (cs 0, 32, .inl S3))], (w_X10 ad (0) cs en S4_253h)]) H299 := hP'
              replace hD : va_D A (fl [[(b1, .inl (cs 0, 8, .inl S1))], [(b2, .inl (cs 0, 40, .inl S2))], [(b3, .inl (cs 0, 32, .inl S3))], (w_X10 ad (0) cs en S4_253h)]) := hD'
              clear hP' hD' hS'
              refine lv_iconst (v := (-1)) hx hb dL_areRiders_302 ic_m1 ?_
              refine lv_icmp_ne (tgt := 310) hx hb dL_areRiders_303 (by decide) (fun c303 => ?_) (fun c303 => ?_)
              · replace hR := it_f hR c303
                exact hB310 S4_253h v5_253 v6_253 v7_253 H299 _ ls hR hP hD hS (lv_sub hl [0, 1, 2, 3, 4, 5, 6] rfl)
              · replace hR := it_t hR c303
                refine lv_iconst (v := 1) hx hb dL_areRiders_306 ic_1 ?_
                refine lv_goto (tgt := 311) hx hb dL_areRiders_307 (by decide) ?_
                exact hB311 S4_253h v5_253 v6_253 v7_253 (1 : Int32) H299 _ ls hR hP hD hS (lv_sub hl [0, 1, 2, 3, 4, 5, 6] rfl)
      have hB225 : ∀ (S4_225h : T5) (v5_225 : Int32) (v6_225 : Int32) (v7_225 : Int32) (v8_225 : Int32) (t0_225 : Int32) (t1_225 : Int32) (H : Heap) (locs : List Loc) (ls : Array Slot), fL_areRiders_225 (fL_areRiders_28 S1 S2 S3 n28) S1 S2 S3 S4_225h v5_225 v6_225 v7_225 v8_225 t0_225 t1_225 = some (r, u4) → va_P (dC, dI) vwCl (fl [[(b1, .inl (cs 0, 8, .inl S1))], [(b2, .inl (cs 0, 40, .inl S2))], [(b3, .inl (cs 0, 32, .inl S3))], (w_X10 ad (0) cs en S4_225h)]) H → va_D A (fl [[(b1, .inl (cs 0, 8, .inl S1))], [(b2, .inl (cs 0, 40, .inl S2))], [(b3, .inl (cs 0, 32, .inl S3))], (w_X10 ad (0) cs en S4_225h)]) → va_S A s.heap H locs → lv_has ls 9 [(0, .ref (ad 0)), (1, .ref b1), (2, .ref b2), (3, .ref b3), (5, .int v5_225), (6, .int v6_225), (7, .int v7_225), (8, .int v8_225)] → W p l e (headSpec wsL_areRiders ({ frames := 5, cells := 0, slots := 0, locals := 110 } : Room)).room s m ([.ref (ad 0), .ref b1, .ref b2, .ref b3] : List Value).toArray below meth c H locs 0 0 (MQ below (QI dC dI (tyL cs) A (fl [[(b1, .inl (cs 0, 8, .inl S1))], [(b2, .inl (cs 0, 40, .inl S2))], [(b3, .inl (cs 0, 32, .inl S3))], (w_X10 ad (0) cs en u4)]) r) ([.ref (ad 0), .ref b1, .ref b2, .ref b3] : List Value).toArray s 0 0 A) (F0 m 225 ls [.int t1_225, .int t0_225]) := by
        intro S4_225h v5_225 v6_225 v7_225 v8_225 t0_225 t1_225 H locs ls hR hP hD hS hl
        refine lv_icmp_ne (tgt := 310) hx hb dL_areRiders_225 (by decide) (fun c225 => ?_) (fun c225 => ?_)
        · replace hR := it_f hR c225
          exact hB310 S4_225h v5_225 v6_225 v7_225 H _ ls hR hP hD hS (lv_sub hl [0, 1, 2, 3, 4, 5, 6] rfl)
        · replace hR := it_t hR c225
          refine lv_aload_n hx hb dL_areRiders_228 rfl (lv_at hl 0 rfl) ?_
          refine lv_iload hx hb dL_areRiders_229 (lv_at hl 6 rfl) ?_
          refine lv_iconst (v := 5) hx hb dL_areRiders_231 ic_5 ?_
          replace hR := bd_e hR
          obtain ⟨q232, gq232, hR⟩ := hR
          refine cm_Vi (As := [.int v7_225, .int (5 : Int32)]) (rest := []) (L := [[(b1, .inl (cs 0, 8, .inl S1))], [(b2, .inl (cs 0, 40, .inl S2))], [(b3, .inl (cs 0, 32, .inl S3))], (w_X10 ad (0) cs en S4_225h)]) (L' := [[(b1, .inl (cs 0, 8, .inl S1))], [(b2, .inl (cs 0, 40, .inl S2))], [(b3, .inl (cs 0, 32, .inl S3))], (w_X10 ad (0) cs en S4_225h)]) (Wc := [(w_X10 ad (0) cs en S4_225h)]) (Wc' := [(w_X10 ad (0) cs en S4_225h)]) (is := [3]) (js := [0, 1, 2]) ⟨hx, hb, hml, hown, hts⟩ (k_X10_riderOf l dC dI cs ad en H.size S4_225h v7_225 (5 : Int32) q232 gq232) (cwV 2 hts gL_areRiders_X10_riderOf rfl rfl rfl cd_X10_riderOf ⟨Nat.le_of_ble_eq_true rfl, Nat.le_of_ble_eq_true rfl⟩) hK hP hD hS hA ⟨rfl, rfl, rfl, rfl, rfl, rfl⟩ (jn_nd (is := [3]) hD rfl rfl) 3 8 rfl rfl rfl rfl rfl hl.1 (Nat.le_of_ble_eq_true rfl) dL_areRiders_232 ⟨Nat.le_of_ble_eq_true rfl, Nat.le_of_ble_eq_true rfl⟩ (fun H232 locs232 hP' hD' hS' => ?_)
          replace hS := hS'
          replace hP : va_P (dC, dI) vwCl (fl [[(b1, .inl (cs 0, 8, .inl S1))], [(b2, .inl (cs 0, 40, .inl S2))], [(b3, .inl (cs 0, 32, .inl S3))], (w_X10 ad (0) cs en S4_225h)]) H232 := hP'
          replace hD : va_D A (fl [[(b1, .inl (cs 0, 8, .inl S1))], [(b2, .inl (cs 0, 40, .inl S2))], [(b3, .inl (cs 0, 32, .inl S3))], (w_X10 ad (0) cs en S4_225h)]) := hD'
          clear hP' hD' hS'
          refine lv_iload hx hb dL_areRiders_235 (lv_at hl 7 rfl) ?_
          refine lv_if_eq (tgt := 251) hx hb dL_areRiders_237 (by decide) (fun c237 => ?_) (fun c237 => ?_)
          · replace hR := it_t hR c237
            refine lv_bipush (v := (-4)) hx hb dL_areRiders_251 bp_m4 ?_
            exact hB253 S4_225h v5_225 v6_225 v7_225 q232 (-4) H232 _ ls hR hP hD hS (lv_sub hl [0, 1, 2, 3, 4, 5, 6] rfl)
          · replace hR := it_f hR c237
            refine lv_aload_n hx hb dL_areRiders_240 rfl (lv_at hl 1 rfl) ?_
            refine lv_aload_n hx hb dL_areRiders_241 rfl (lv_at hl 2 rfl) ?_
            refine lv_aload_n hx hb dL_areRiders_242 rfl (lv_at hl 3 rfl) ?_
            refine lv_iload hx hb dL_areRiders_243 (lv_at hl 6 rfl) ?_
            replace hR := bd_e hR
            obtain ⟨q245, gq245, hR⟩ := hR
            refine cm_Si (As := [.ref b1, .ref b2, .ref b3, .int v7_225]) (rest := [.int q232]) (L := [[(b1, .inl (cs 0, 8, .inl S1))], [(b2, .inl (cs 0, 40, .inl S2))], [(b3, .inl (cs 0, 32, .inl S3))], (w_X10 ad (0) cs en S4_225h)]) (L' := [[(b1, .inl (cs 0, 8, .inl S1))], [(b2, .inl (cs 0, 40, .inl S2))], [(b3, .inl (cs 0, 32, .inl S3))], (w_X10 ad (0) cs en S4_225h)]) (Wc := [[(b1, .inl (cs 0, 8, .inl S1))], [(b2, .inl (cs 0, 40, .inl S2))], [(b3, .inl (cs 0, 32, .inl S3))]]) (Wc' := [[(b1, .inl (cs 0, 8, .inl S1))], [(b2, .inl (cs 0, 40, .inl S2))], [(b3, .inl (cs 0, 32, .inl S3))]]) (is := [0, 1, 2]) (js := [3]) ⟨hx, hb, hml, hown, hts⟩ (k_L_fee l dC dI cs ad (b1) (b2) (b3) H232.size S1 S2 S3 v7_225 q245 gq245) (va_cwS 4 hts gL_areRiders_L_fee rfl rfl rfl cd_L_fee.2 ⟨Nat.le_of_ble_eq_true rfl, Nat.le_of_ble_eq_true rfl⟩) hK hP hD hS hA ⟨rfl, rfl, rfl, rfl, rfl, rfl⟩ (jn_nd (is := [0, 1, 2]) hD rfl rfl) rfl rfl hl.1 (Nat.le_of_ble_eq_true rfl) dL_areRiders_245 ⟨Nat.le_of_ble_eq_true rfl, Nat.le_of_ble_eq_true rfl⟩ (fun H245 locs245 hP' hD' hS' => ?_)
            replace hS := hS'
            replace hP : va_P (dC, dI) vwCl (fl [[(b1, .inl (cs 0, 8, .inl S1))], [(b2, .inl (cs 0, 40, .inl S2))], [(b3, .inl (cs 0, 32, .inl S3))], (w_X10 ad (0) cs en S4_225h)]) H245 := hP'
            replace hD : va_D A (fl [[(b1, .inl (cs 0, 8, .inl S1))], [(b2, .inl (cs 0, 40, .inl S2))], [(b3, .inl (cs 0, 32, .inl S3))], (w_X10 ad (0) cs en S4_225h)]) := hD'
            clear hP' hD' hS'
            refine lv_goto (tgt := 253) hx hb dL_areRiders_248 (by decide) ?_
            exact hB253 S4_225h v5_225 v6_225 v7_225 q232 q245 H245 _ ls hR hP hD hS (lv_sub hl [0, 1, 2, 3, 4, 5, 6] rfl)
      have hB197 : ∀ (S4_197h : T5) (v5_197 : Int32) (v6_197 : Int32) (v7_197 : Int32) (v8_197 : Int32) (t0_197 : Int32) (t1_197 : Int32) (H : Heap) (locs : List Loc) (ls : Array Slot), fL_areRiders_197 (fL_areRiders_28 S1 S2 S3 n28) S1 S2 S3 S4_197h v5_197 v6_197 v7_197 v8_197 t0_197 t1_197 = some (r, u4) → va_P (dC, dI) vwCl (fl [[(b1, .inl (cs 0, 8, .inl S1))], [(b2, .inl (cs 0, 40, .inl S2))], [(b3, .inl (cs 0, 32, .inl S3))], (w_X10 ad (0) cs en S4_197h)]) H → va_D A (fl [[(b1, .inl (cs 0, 8, .inl S1))], [(b2, .inl (cs 0, 40, .inl S2))], [(b3, .inl (cs 0, 32, .inl S3))], (w_X10 ad (0) cs en S4_197h)]) → va_S A s.heap H locs → lv_has ls 9 [(0, .ref (ad 0)), (1, .ref b1), (2, .ref b2), (3, .ref b3), (5, .int v5_197), (6, .int v6_197), (7, .int v7_197), (8, .int v8_197)] → W p l e (headSpec wsL_areRiders ({ frames := 5, cells := 0, slots := 0, locals := 110 } : Room)).room s m ([.ref (ad 0), .ref b1, .ref b2, .ref b3] : List Value).toArray below meth c H locs 0 0 (MQ below (QI dC dI (tyL cs) A (fl [[(b1, .inl (cs 0, 8, .inl S1))], [(b2, .inl (cs 0, 40, .inl S2))], [(b3, .inl (cs 0, 32, .inl S3))], (w_X10 ad (0) cs en u4)]) r) ([.ref (ad 0), .ref b1, .ref b2, .ref b3] : List Value).toArray s 0 0 A) (F0 m 197 ls [.int t1_197, .int t0_197]) := by
        intro S4_197h v5_197 v6_197 v7_197 v8_197 t0_197 t1_197 H locs ls hR hP hD hS hl
        refine lv_icmp_ne (tgt := 310) hx hb dL_areRiders_197 (by decide) (fun c197 => ?_) (fun c197 => ?_)
        · replace hR := it_f hR c197
          exact hB310 S4_197h v5_197 v6_197 v7_197 H _ ls hR hP hD hS (lv_sub hl [0, 1, 2, 3, 4, 5, 6] rfl)
        · replace hR := it_t hR c197
          refine lv_aload_n hx hb dL_areRiders_200 rfl (lv_at hl 0 rfl) ?_
          refine lv_iload hx hb dL_areRiders_201 (lv_at hl 6 rfl) ?_
          refine lv_iconst (v := 4) hx hb dL_areRiders_203 ic_4 ?_
          replace hR := bd_e hR
          obtain ⟨q204, gq204, hR⟩ := hR
          refine cm_Vi (As := [.int v7_197, .int (4 : Int32)]) (rest := []) (L := [[(b1, .inl (cs 0, 8, .inl S1))], [(b2, .inl (cs 0, 40, .inl S2))], [(b3, .inl (cs 0, 32, .inl S3))], (w_X10 ad (0) cs en S4_197h)]) (L' := [[(b1, .inl (cs 0, 8, .inl S1))], [(b2, .inl (cs 0, 40, .inl S2))], [(b3, .inl (cs 0, 32, .inl S3))], (w_X10 ad (0) cs en S4_197h)]) (Wc := [(w_X10 ad (0) cs en S4_197h)]) (Wc' := [(w_X10 ad (0) cs en S4_197h)]) (is := [3]) (js := [0, 1, 2]) ⟨hx, hb, hml, hown, hts⟩ (k_X10_riderOf l dC dI cs ad en H.size S4_197h v7_197 (4 : Int32) q204 gq204) (cwV 2 hts gL_areRiders_X10_riderOf rfl rfl rfl cd_X10_riderOf ⟨Nat.le_of_ble_eq_true rfl, Nat.le_of_ble_eq_true rfl⟩) hK hP hD hS hA ⟨rfl, rfl, rfl, rfl, rfl, rfl⟩ (jn_nd (is := [3]) hD rfl rfl) 3 8 rfl rfl rfl rfl rfl hl.1 (Nat.le_of_ble_eq_true rfl) dL_areRiders_204 ⟨Nat.le_of_ble_eq_true rfl, Nat.le_of_ble_eq_true rfl⟩ (fun H204 locs204 hP' hD' hS' => ?_)
          replace hS := hS'
          replace hP : va_P (dC, dI) vwCl (fl [[(b1, .inl (cs 0, 8, .inl S1))], [(b2, .inl (cs 0, 40, .inl S2))], [(b3, .inl (cs 0, 32, .inl S3))], (w_X10 ad (0) cs en S4_197h)]) H204 := hP'
          replace hD : va_D A (fl [[(b1, .inl (cs 0, 8, .inl S1))], [(b2, .inl (cs 0, 40, .inl S2))], [(b3, .inl (cs 0, 32, .inl S3))], (w_X10 ad (0) cs en S4_197h)]) := hD'
          clear hP' hD' hS'
          refine lv_iload hx hb dL_areRiders_207 (lv_at hl 7 rfl) ?_
          refine lv_if_eq (tgt := 223) hx hb dL_areRiders_209 (by decide) (fun c209 => ?_) (fun c209 => ?_)
          · replace hR := it_t hR c209
            refine lv_bipush (v := (-4)) hx hb dL_areRiders_223 bp_m4 ?_
            exact hB225 S4_197h v5_197 v6_197 v7_197 v8_197 q204 (-4) H204 _ ls hR hP hD hS (lv_sub hl [0, 1, 2, 3, 4, 5, 6, 7] rfl)
          · replace hR := it_f hR c209
            refine lv_aload_n hx hb dL_areRiders_212 rfl (lv_at hl 2 rfl) ?_
            refine lv_iconst (v := 5) hx hb dL_areRiders_213 ic_5 ?_
            refine lv_iload hx hb dL_areRiders_214 (lv_at hl 6 rfl) ?_
            refine lv_imul hx hb dL_areRiders_216 ?_
            refine lv_iconst (v := 4) hx hb dL_areRiders_217 ic_4 ?_
            refine lv_iadd hx hb dL_areRiders_218 ?_
            replace hR := gi_e hR
            obtain ⟨i219, hR⟩ := hR
            refine va_iald hx hb hK hP 1 0 rfl rfl i219 dL_areRiders_219 ?_
            refine lv_goto (tgt := 225) hx hb dL_areRiders_220 (by decide) ?_
            exact hB225 S4_197h v5_197 v6_197 v7_197 v8_197 q204 (S2  (((5 : Int32) * v7_197) + 4).toNatClampNeg) H204 _ ls hR hP hD hS (lv_sub hl [0, 1, 2, 3, 4, 5, 6, 7] rfl)
      have hB147 : ∀ (S4_147h : T5) (v5_147 : Int32) (v6_147 : Int32) (v7_147 : Int32) (v8_147 : Int32) (t0_147 : Int32) (t1_147 : Int32) (H : Heap) (locs : List Loc) (ls : Array Slot), fL_areRiders_147 (fL_areRiders_28 S1 S2 S3 n28) S1 S2 S3 S4_147h v5_147 v6_147 v7_147 v8_147 t0_147 t1_147 = some (r, u4) → va_P (dC, dI) vwCl (fl [[(b1, .inl (cs 0, 8, .inl S1))], [(b2, .inl (cs 0, 40, .inl S2))], [(b3, .inl (cs 0, 32, .inl S3))], (w_X10 ad (0) cs en S4_147h)]) H → va_D A (fl [[(b1, .inl (cs 0, 8, .inl S1))], [(b2, .inl (cs 0, 40, .inl S2))], [(b3, .inl (cs 0, 32, .inl S3))], (w_X10 ad (0) cs en S4_147h)]) → va_S A s.heap H locs → lv_has ls 9 [(0, .ref (ad 0)), (1, .ref b1), (2, .ref b2), (3, .ref b3), (5, .int v5_147), (6, .int v6_147), (7, .int v7_147), (8, .int v8_147)] → W p l e (headSpec wsL_areRiders ({ frames := 5, cells := 0, slots := 0, locals := 110 } : Room)).room s m ([.ref (ad 0), .ref b1, .ref b2, .ref b3] : List Value).toArray below meth c H locs 0 0 (MQ below (QI dC dI (tyL cs) A (fl [[(b1, .inl (cs 0, 8, .inl S1))], [(b2, .inl (cs 0, 40, .inl S2))], [(b3, .inl (cs 0, 32, .inl S3))], (w_X10 ad (0) cs en u4)]) r) ([.ref (ad 0), .ref b1, .ref b2, .ref b3] : List Value).toArray s 0 0 A) (F0 m 147 ls [.int t1_147, .int t0_147]) := by
        intro S4_147h v5_147 v6_147 v7_147 v8_147 t0_147 t1_147 H locs ls hR hP hD hS hl
        refine lv_icmp_ne (tgt := 310) hx hb dL_areRiders_147 (by decide) (fun c147 => ?_) (fun c147 => ?_)
        · replace hR := it_f hR c147
          exact hB310 S4_147h v5_147 v6_147 v7_147 H _ ls hR hP hD hS (lv_sub hl [0, 1, 2, 3, 4, 5, 6] rfl)
        · replace hR := it_t hR c147
          refine lv_aload_n hx hb dL_areRiders_150 rfl (lv_at hl 0 rfl) ?_
          refine lv_iload hx hb dL_areRiders_151 (lv_at hl 6 rfl) ?_
          refine lv_iconst (v := 2) hx hb dL_areRiders_153 ic_2 ?_
          replace hR := bd_e hR
          obtain ⟨q154, gq154, hR⟩ := hR
          refine cm_Vi (As := [.int v7_147, .int (2 : Int32)]) (rest := []) (L := [[(b1, .inl (cs 0, 8, .inl S1))], [(b2, .inl (cs 0, 40, .inl S2))], [(b3, .inl (cs 0, 32, .inl S3))], (w_X10 ad (0) cs en S4_147h)]) (L' := [[(b1, .inl (cs 0, 8, .inl S1))], [(b2, .inl (cs 0, 40, .inl S2))], [(b3, .inl (cs 0, 32, .inl S3))], (w_X10 ad (0) cs en S4_147h)]) (Wc := [(w_X10 ad (0) cs en S4_147h)]) (Wc' := [(w_X10 ad (0) cs en S4_147h)]) (is := [3]) (js := [0, 1, 2]) ⟨hx, hb, hml, hown, hts⟩ (k_X10_riderOf l dC dI cs ad en H.size S4_147h v7_147 (2 : Int32) q154 gq154) (cwV 2 hts gL_areRiders_X10_riderOf rfl rfl rfl cd_X10_riderOf ⟨Nat.le_of_ble_eq_true rfl, Nat.le_of_ble_eq_true rfl⟩) hK hP hD hS hA ⟨rfl, rfl, rfl, rfl, rfl, rfl⟩ (jn_nd (is := [3]) hD rfl rfl) 3 8 rfl rfl rfl rfl rfl hl.1 (Nat.le_of_ble_eq_true rfl) dL_areRiders_154 ⟨Nat.le_of_ble_eq_true rfl, Nat.le_of_ble_eq_true rfl⟩ (fun H154 locs154 hP' hD' hS' => ?_)
          replace hS := hS'
          replace hP : va_P (dC, dI) vwCl (fl [[(b1, .inl (cs 0, 8, .inl S1))], [(b2, .inl (cs 0, 40, .inl S2))], [(b3, .inl (cs 0, 32, .inl S3))], (w_X10 ad (0) cs en S4_147h)]) H154 := hP'
          replace hD : va_D A (fl [[(b1, .inl (cs 0, 8, .inl S1))], [(b2, .inl (cs 0, 40, .inl S2))], [(b3, .inl (cs 0, 32, .inl S3))], (w_X10 ad (0) cs en S4_147h)]) := hD'
          clear hP' hD' hS'
          refine lv_aload_n hx hb dL_areRiders_157 rfl (lv_at hl 2 rfl) ?_
          refine lv_iconst (v := 5) hx hb dL_areRiders_158 ic_5 ?_
          refine lv_iload hx hb dL_areRiders_159 (lv_at hl 6 rfl) ?_
          refine lv_imul hx hb dL_areRiders_161 ?_
          refine lv_iconst (v := 2) hx hb dL_areRiders_162 ic_2 ?_
          refine lv_iadd hx hb dL_areRiders_163 ?_
          replace hR := gi_e hR
          obtain ⟨i164, hR⟩ := hR
          refine va_iald hx hb hK hP 1 0 rfl rfl i164 dL_areRiders_164 ?_
          refine lv_icmp_ne (tgt := 310) hx hb dL_areRiders_165 (by decide) (fun c165 => ?_) (fun c165 => ?_)
          · replace hR := it_f hR c165
            exact hB310 S4_147h v5_147 v6_147 v7_147 H154 _ ls hR hP hD hS (lv_sub hl [0, 1, 2, 3, 4, 5, 6] rfl)
          · replace hR := it_t hR c165
            refine lv_aload_n hx hb dL_areRiders_168 rfl (lv_at hl 0 rfl) ?_
            refine lv_iload hx hb dL_areRiders_169 (lv_at hl 6 rfl) ?_
            refine lv_iconst (v := 3) hx hb dL_areRiders_171 ic_3 ?_
            replace hR := bd_e hR
            obtain ⟨q172, gq172, hR⟩ := hR
            refine cm_Vi (As := [.int v7_147, .int (3 : Int32)]) (rest := []) (L := [[(b1, .inl (cs 0, 8, .inl S1))], [(b2, .inl (cs 0, 40, .inl S2))], [(b3, .inl (cs 0, 32, .inl S3))], (w_X10 ad (0) cs en S4_147h)]) (L' := [[(b1, .inl (cs 0, 8, .inl S1))], [(b2, .inl (cs 0, 40, .inl S2))], [(b3, .inl (cs 0, 32, .inl S3))], (w_X10 ad (0) cs en S4_147h)]) (Wc := [(w_X10 ad (0) cs en S4_147h)]) (Wc' := [(w_X10 ad (0) cs en S4_147h)]) (is := [3]) (js := [0, 1, 2]) ⟨hx, hb, hml, hown, hts⟩ (k_X10_riderOf l dC dI cs ad en H154.size S4_147h v7_147 (3 : Int32) q172 gq172) (cwV 2 hts gL_areRiders_X10_riderOf rfl rfl rfl cd_X10_riderOf ⟨Nat.le_of_ble_eq_true rfl, Nat.le_of_ble_eq_true rfl⟩) hK hP hD hS hA ⟨rfl, rfl, rfl, rfl, rfl, rfl⟩ (jn_nd (is := [3]) hD rfl rfl) 3 8 rfl rfl rfl rfl rfl hl.1 (Nat.le_of_ble_eq_true rfl) dL_areRiders_172 ⟨Nat.le_of_ble_eq_true rfl, Nat.le_of_ble_eq_true rfl⟩ (fun H172 locs172 hP' hD' hS' => ?_)
            replace hS := hS'
            replace hP : va_P (dC, dI) vwCl (fl [[(b1, .inl (cs 0, 8, .inl S1))], [(b2, .inl (cs 0, 40, .inl S2))], [(b3, .inl (cs 0, 32, .inl S3))], (w_X10 ad (0) cs en S4_147h)]) H172 := hP'
            replace hD : va_D A (fl [[(b1, .inl (cs 0, 8, .inl S1))], [(b2, .inl (cs 0, 40, .inl S2))], [(b3, .inl (cs 0, 32, .inl S3))], (w_X10 ad (0) cs en S4_147h)]) := hD'
            clear hP' hD' hS'
            refine lv_iload hx hb dL_areRiders_175 (lv_at hl 7 rfl) ?_
            refine lv_if_eq (tgt := 195) hx hb dL_areRiders_177 (by decide) (fun c177 => ?_) (fun c177 => ?_)
            · replace hR := it_t hR c177
              refine lv_bipush (v := (-4)) hx hb dL_areRiders_195 bp_m4 ?_
              exact hB197 S4_147h v5_147 v6_147 v7_147 v8_147 q172 (-4) H172 _ ls hR hP hD hS (lv_sub hl [0, 1, 2, 3, 4, 5, 6, 7] rfl)
            · replace hR := it_f hR c177
              refine lv_aload_n hx hb dL_areRiders_180 rfl (lv_at hl 1 rfl) ?_
              refine lv_iconst (v := 4) hx hb dL_areRiders_181 ic_4 ?_
              refine va_iald hx hb hK hP 0 0 rfl rfl vi_4_8 dL_areRiders_182 ?_
              refine lv_aload_n hx hb dL_areRiders_183 rfl (lv_at hl 2 rfl) ?_
              refine lv_iconst (v := 5) hx hb dL_areRiders_184 ic_5 ?_
              refine lv_iload hx hb dL_areRiders_185 (lv_at hl 6 rfl) ?_
              refine lv_imul hx hb dL_areRiders_187 ?_
              refine lv_iconst (v := 3) hx hb dL_areRiders_188 ic_3 ?_
              refine lv_iadd hx hb dL_areRiders_189 ?_
              replace hR := gi_e hR
              obtain ⟨i190, hR⟩ := hR
              refine va_iald hx hb hK hP 1 0 rfl rfl i190 dL_areRiders_190 ?_
              refine lv_isub hx hb dL_areRiders_191 ?_
              refine lv_goto (tgt := 197) hx hb dL_areRiders_192 (by decide) ?_
              exact hB197 S4_147h v5_147 v6_147 v7_147 v8_147 q172 ((S1  (4 : Int32).toNatClampNeg) - (S2  (((5 : Int32) * v7_147) + 3).toNatClampNeg)) H172 _ ls hR hP hD hS (lv_sub hl [0, 1, 2, 3, 4, 5, 6, 7] rfl)
      have hB90 : ∀ (S4_90h : T5) (v5_90 : Int32) (v7_90 : Int32) (v8_90 : Int32) (t0_90 : Int32) (t1_90 : Int32) (t2_90 : Int32) (H : Heap) (locs : List Loc) (ls : Array Slot), fL_areRiders_90 (fL_areRiders_28 S1 S2 S3 n28) S1 S2 S3 S4_90h v5_90 v7_90 v8_90 t0_90 t1_90 t2_90 = some (r, u4) → va_P (dC, dI) vwCl (fl [[(b1, .inl (cs 0, 8, .inl S1))], [(b2, .inl (cs 0, 40, .inl S2))], [(b3, .inl (cs 0, 32, .inl S3))], (w_X10 ad (0) cs en S4_90h)]) H → va_D A (fl [[(b1, .inl (cs 0, 8, .inl S1))], [(b2, .inl (cs 0, 40, .inl S2))], [(b3, .inl (cs 0, 32, .inl S3))], (w_X10 ad (0) cs en S4_90h)]) → va_S A s.heap H locs → lv_has ls 9 [(0, .ref (ad 0)), (1, .ref b1), (2, .ref b2), (3, .ref b3), (5, .int v5_90), (7, .int v7_90), (8, .int v8_90)] → W p l e (headSpec wsL_areRiders ({ frames := 5, cells := 0, slots := 0, locals := 110 } : Room)).room s m ([.ref (ad 0), .ref b1, .ref b2, .ref b3] : List Value).toArray below meth c H locs 0 0 (MQ below (QI dC dI (tyL cs) A (fl [[(b1, .inl (cs 0, 8, .inl S1))], [(b2, .inl (cs 0, 40, .inl S2))], [(b3, .inl (cs 0, 32, .inl S3))], (w_X10 ad (0) cs en u4)]) r) ([.ref (ad 0), .ref b1, .ref b2, .ref b3] : List Value).toArray s 0 0 A) (F0 m 90 ls [.int t2_90, .int t1_90, .int t0_90]) := by
        intro S4_90h v5_90 v7_90 v8_90 t0_90 t1_90 t2_90 H locs ls hR hP hD hS hl
        refine lv_iadd hx hb dL_areRiders_90 ?_
        refine lv_iadd hx hb dL_areRiders_91 ?_
        refine lv_istore (lv' := [(6, .int (t0_90 + (t1_90 + t2_90))), (0, .ref (ad 0)), (1, .ref b1), (2, .ref b2), (3, .ref b3), (5, .int v5_90), (7, .int v7_90), (8, .int v8_90)]) hx hb dL_areRiders_92 hl (Nat.le_of_ble_eq_true rfl) rfl (fun ls hl => ?_)
        refine lv_aload_n hx hb dL_areRiders_94 rfl (lv_at hl 1 rfl) ?_
        refine lv_iload hx hb dL_areRiders_95 (lv_at hl 6 rfl) ?_
        refine lv_iconst (v := 0) hx hb dL_areRiders_97 ic_0 ?_
        replace hR := bd_e hR
        obtain ⟨q98, gq98, hR⟩ := hR
        refine cm_Vi (As := [.int v7_90, .int (0 : Int32)]) (rest := []) (L := [[(b1, .inl (cs 0, 8, .inl S1))], [(b2, .inl (cs 0, 40, .inl S2))], [(b3, .inl (cs 0, 32, .inl S3))], (w_X10 ad (0) cs en S4_90h)]) (L' := [[(b1, .inl (cs 0, 8, .inl S1))], [(b2, .inl (cs 0, 40, .inl S2))], [(b3, .inl (cs 0, 32, .inl S3))], (w_X10 ad (0) cs en S4_90h)]) (Wc := [(w_X10 ad (0) cs en S4_90h)]) (Wc' := [(w_X10 ad (0) cs en S4_90h)]) (is := [3]) (js := [0, 1, 2]) ⟨hx, hb, hml, hown, hts⟩ (k_X10_riderOf l dC dI cs ad en H.size S4_90h v7_90 (0 : Int32) q98 gq98) (cwV 2 hts gL_areRiders_X10_riderOf rfl rfl rfl cd_X10_riderOf ⟨Nat.le_of_ble_eq_true rfl, Nat.le_of_ble_eq_true rfl⟩) hK hP hD hS hA ⟨rfl, rfl, rfl, rfl, rfl, rfl⟩ (jn_nd (is := [3]) hD rfl rfl) 3 8 rfl rfl rfl rfl rfl hl.1 (Nat.le_of_ble_eq_true rfl) dL_areRiders_98 ⟨Nat.le_of_ble_eq_true rfl, Nat.le_of_ble_eq_true rfl⟩ (fun H98 locs98 hP' hD' hS' => ?_)
        replace hS := hS'
        replace hP : va_P (dC, dI) vwCl (fl [[(b1, .inl (cs 0, 8, .inl S1))], [(b2, .inl (cs 0, 40, .inl S2))], [(b3, .inl (cs 0, 32, .inl S3))], (w_X10 ad (0) cs en S4_90h)]) H98 := hP'
        replace hD : va_D A (fl [[(b1, .inl (cs 0, 8, .inl S1))], [(b2, .inl (cs 0, 40, .inl S2))], [(b3, .inl (cs 0, 32, .inl S3))], (w_X10 ad (0) cs en S4_90h)]) := hD'
        clear hP' hD' hS'
        refine lv_aload_n hx hb dL_areRiders_101 rfl (lv_at hl 3 rfl) ?_
        refine lv_iconst (v := 5) hx hb dL_areRiders_102 ic_5 ?_
        refine lv_iload hx hb dL_areRiders_103 (lv_at hl 6 rfl) ?_
        refine lv_imul hx hb dL_areRiders_105 ?_
        replace hR := gi_e hR
        obtain ⟨i106, hR⟩ := hR
        refine va_iald hx hb hK hP 1 0 rfl rfl i106 dL_areRiders_106 ?_
        refine lv_icmp_ne (tgt := 310) hx hb dL_areRiders_107 (by decide) (fun c107 => ?_) (fun c107 => ?_)
        · replace hR := it_f hR c107
          exact hB310 S4_90h v5_90 (t0_90 + (t1_90 + t2_90)) v7_90 H98 _ ls hR hP hD hS (lv_sub hl [1, 2, 3, 4, 5, 0, 6] rfl)
        · replace hR := it_t hR c107
          refine lv_aload_n hx hb dL_areRiders_110 rfl (lv_at hl 1 rfl) ?_
          refine lv_iload hx hb dL_areRiders_111 (lv_at hl 6 rfl) ?_
          refine lv_iconst (v := 1) hx hb dL_areRiders_113 ic_1 ?_
          replace hR := bd_e hR
          obtain ⟨q114, gq114, hR⟩ := hR
          refine cm_Vi (As := [.int v7_90, .int (1 : Int32)]) (rest := []) (L := [[(b1, .inl (cs 0, 8, .inl S1))], [(b2, .inl (cs 0, 40, .inl S2))], [(b3, .inl (cs 0, 32, .inl S3))], (w_X10 ad (0) cs en S4_90h)]) (L' := [[(b1, .inl (cs 0, 8, .inl S1))], [(b2, .inl (cs 0, 40, .inl S2))], [(b3, .inl (cs 0, 32, .inl S3))], (w_X10 ad (0) cs en S4_90h)]) (Wc := [(w_X10 ad (0) cs en S4_90h)]) (Wc' := [(w_X10 ad (0) cs en S4_90h)]) (is := [3]) (js := [0, 1, 2]) ⟨hx, hb, hml, hown, hts⟩ (k_X10_riderOf l dC dI cs ad en H98.size S4_90h v7_90 (1 : Int32) q114 gq114) (cwV 2 hts gL_areRiders_X10_riderOf rfl rfl rfl cd_X10_riderOf ⟨Nat.le_of_ble_eq_true rfl, Nat.le_of_ble_eq_true rfl⟩) hK hP hD hS hA ⟨rfl, rfl, rfl, rfl, rfl, rfl⟩ (jn_nd (is := [3]) hD rfl rfl) 3 8 rfl rfl rfl rfl rfl hl.1 (Nat.le_of_ble_eq_true rfl) dL_areRiders_114 ⟨Nat.le_of_ble_eq_true rfl, Nat.le_of_ble_eq_true rfl⟩ (fun H114 locs114 hP' hD' hS' => ?_)
          replace hS := hS'
          replace hP : va_P (dC, dI) vwCl (fl [[(b1, .inl (cs 0, 8, .inl S1))], [(b2, .inl (cs 0, 40, .inl S2))], [(b3, .inl (cs 0, 32, .inl S3))], (w_X10 ad (0) cs en S4_90h)]) H114 := hP'
          replace hD : va_D A (fl [[(b1, .inl (cs 0, 8, .inl S1))], [(b2, .inl (cs 0, 40, .inl S2))], [(b3, .inl (cs 0, 32, .inl S3))], (w_X10 ad (0) cs en S4_90h)]) := hD'
          clear hP' hD' hS'
          refine lv_aload_n hx hb dL_areRiders_117 rfl (lv_at hl 3 rfl) ?_
          refine lv_iconst (v := 5) hx hb dL_areRiders_118 ic_5 ?_
          refine lv_iload hx hb dL_areRiders_119 (lv_at hl 6 rfl) ?_
          refine lv_imul hx hb dL_areRiders_121 ?_
          refine lv_iconst (v := 1) hx hb dL_areRiders_122 ic_1 ?_
          refine lv_iadd hx hb dL_areRiders_123 ?_
          replace hR := gi_e hR
          obtain ⟨i124, hR⟩ := hR
          refine va_iald hx hb hK hP 1 0 rfl rfl i124 dL_areRiders_124 ?_
          refine lv_aload_n hx hb dL_areRiders_125 rfl (lv_at hl 2 rfl) ?_
          refine lv_iconst (v := 4) hx hb dL_areRiders_126 ic_4 ?_
          refine va_iald hx hb hK hP 0 0 rfl rfl vi_4_8 dL_areRiders_127 ?_
          refine lv_icmp_le (tgt := 146) hx hb dL_areRiders_128 (by decide) (fun c128 => ?_) (fun c128 => ?_)
          · replace hR := it_t hR c128
            refine lv_iconst (v := 0) hx hb dL_areRiders_146 ic_0 ?_
            exact hB147 S4_90h v5_90 (t0_90 + (t1_90 + t2_90)) v7_90 v8_90 q114 (0 : Int32) H114 _ ls hR hP hD hS (lv_sub hl [1, 2, 3, 4, 5, 0, 6, 7] rfl)
          · replace hR := it_f hR c128
            refine lv_aload_n hx hb dL_areRiders_131 rfl (lv_at hl 3 rfl) ?_
            refine lv_iconst (v := 5) hx hb dL_areRiders_132 ic_5 ?_
            refine lv_iload hx hb dL_areRiders_133 (lv_at hl 6 rfl) ?_
            refine lv_imul hx hb dL_areRiders_135 ?_
            refine lv_iconst (v := 1) hx hb dL_areRiders_136 ic_1 ?_
            refine lv_iadd hx hb dL_areRiders_137 ?_
            replace hR := gi_e hR
            obtain ⟨i138, hR⟩ := hR
            refine va_iald hx hb hK hP 1 0 rfl rfl i138 dL_areRiders_138 ?_
            refine lv_aload_n hx hb dL_areRiders_139 rfl (lv_at hl 2 rfl) ?_
            refine lv_iconst (v := 4) hx hb dL_areRiders_140 ic_4 ?_
            refine va_iald hx hb hK hP 0 0 rfl rfl vi_4_8 dL_areRiders_141 ?_
            refine lv_isub hx hb dL_areRiders_142 ?_
            refine lv_goto (tgt := 147) hx hb dL_areRiders_143 (by decide) ?_
            exact hB147 S4_90h v5_90 (t0_90 + (t1_90 + t2_90)) v7_90 v8_90 q114 ((S2  (((5 : Int32) * v7_90) + 1).toNatClampNeg) - (S1  (4 : Int32).toNatClampNeg)) H114 _ ls hR hP hD hS (lv_sub hl [1, 2, 3, 4, 5, 0, 6, 7] rfl)
      have hB57 : ∀ (S4_57h : T5) (v5_57 : Int32) (v6_57 : Int32) (v7_57 : Int32) (t0_57 : Int32) (H : Heap) (locs : List Loc) (ls : Array Slot), fL_areRiders_57 (fL_areRiders_28 S1 S2 S3 n28) S1 S2 S3 S4_57h v5_57 v6_57 v7_57 t0_57 = some (r, u4) → va_P (dC, dI) vwCl (fl [[(b1, .inl (cs 0, 8, .inl S1))], [(b2, .inl (cs 0, 40, .inl S2))], [(b3, .inl (cs 0, 32, .inl S3))], (w_X10 ad (0) cs en S4_57h)]) H → va_D A (fl [[(b1, .inl (cs 0, 8, .inl S1))], [(b2, .inl (cs 0, 40, .inl S2))], [(b3, .inl (cs 0, 32, .inl S3))], (w_X10 ad (0) cs en S4_57h)]) → va_S A s.heap H locs → lv_has ls 9 [(0, .ref (ad 0)), (1, .ref b1), (2, .ref b2), (3, .ref b3), (5, .int v5_57), (6, .int v6_57), (7, .int v7_57)] → W p l e (headSpec wsL_areRiders ({ frames := 5, cells := 0, slots := 0, locals := 110 } : Room)).room s m ([.ref (ad 0), .ref b1, .ref b2, .ref b3] : List Value).toArray below meth c H locs 0 0 (MQ below (QI dC dI (tyL cs) A (fl [[(b1, .inl (cs 0, 8, .inl S1))], [(b2, .inl (cs 0, 40, .inl S2))], [(b3, .inl (cs 0, 32, .inl S3))], (w_X10 ad (0) cs en u4)]) r) ([.ref (ad 0), .ref b1, .ref b2, .ref b3] : List Value).toArray s 0 0 A) (F0 m 57 ls [.int t0_57]) := by
        intro S4_57h v5_57 v6_57 v7_57 t0_57 H locs ls hR hP hD hS hl
        refine lv_istore (lv' := [(8, .int t0_57), (0, .ref (ad 0)), (1, .ref b1), (2, .ref b2), (3, .ref b3), (5, .int v5_57), (6, .int v6_57), (7, .int v7_57)]) hx hb dL_areRiders_57 hl (Nat.le_of_ble_eq_true rfl) rfl (fun ls hl => ?_)
        refine lv_iload hx hb dL_areRiders_59 (lv_at hl 5 rfl) ?_
        refine lv_aload_n hx hb dL_areRiders_61 rfl (lv_at hl 3 rfl) ?_
        refine lv_iconst (v := 5) hx hb dL_areRiders_62 ic_5 ?_
        refine lv_iload hx hb dL_areRiders_63 (lv_at hl 7 rfl) ?_
        refine lv_imul hx hb dL_areRiders_65 ?_
        replace hR := gi_e hR
        obtain ⟨i66, hR⟩ := hR
        refine va_iald hx hb hK hP 1 0 rfl rfl i66 dL_areRiders_66 ?_
        refine lv_iadd hx hb dL_areRiders_67 ?_
        replace hR := bn_e hR
        obtain ⟨x68, ex68, hR⟩ := hR
        refine tp_g ex68 ?_
        refine lv_istore (lv' := [(5, .int x68), (8, .int t0_57), (0, .ref (ad 0)), (1, .ref b1), (2, .ref b2), (3, .ref b3), (6, .int v6_57), (7, .int v7_57)]) hx hb dL_areRiders_68 hl (Nat.le_of_ble_eq_true rfl) rfl (fun ls hl => ?_)
        refine lv_iload hx hb dL_areRiders_70 (lv_at hl 6 rfl) ?_
        refine lv_aload_n hx hb dL_areRiders_72 rfl (lv_at hl 5 rfl) ?_
        refine lv_iconst (v := 4) hx hb dL_areRiders_73 ic_4 ?_
        refine lv_iload hx hb dL_areRiders_74 (lv_at hl 7 rfl) ?_
        refine lv_imul hx hb dL_areRiders_76 ?_
        refine lv_iconst (v := 2) hx hb dL_areRiders_77 ic_2 ?_
        refine lv_iadd hx hb dL_areRiders_78 ?_
        replace hR := gi_e hR
        obtain ⟨i79, hR⟩ := hR
        refine va_iald hx hb hK hP 2 0 rfl rfl i79 dL_areRiders_79 ?_
        refine lv_iload hx hb dL_areRiders_80 (lv_at hl 1 rfl) ?_
        refine lv_if_eq (tgt := 89) hx hb dL_areRiders_82 (by decide) (fun c82 => ?_) (fun c82 => ?_)
        · replace hR := it_t hR c82
          refine lv_iconst (v := 0) hx hb dL_areRiders_89 ic_0 ?_
          exact hB90 S4_57h x68 v7_57 t0_57 v6_57 (S3  (((4 : Int32) * v7_57) + 2).toNatClampNeg) (0 : Int32) H _ ls hR hP hD hS (lv_sub hl [2, 3, 4, 5, 0, 7, 1] rfl)
        · replace hR := it_f hR c82
          refine lv_iconst (v := 1) hx hb dL_areRiders_85 ic_1 ?_
          refine lv_goto (tgt := 90) hx hb dL_areRiders_86 (by decide) ?_
          exact hB90 S4_57h x68 v7_57 t0_57 v6_57 (S3  (((4 : Int32) * v7_57) + 2).toNatClampNeg) (1 : Int32) H _ ls hR hP hD hS (lv_sub hl [2, 3, 4, 5, 0, 7, 1] rfl)
      intro S4_28h v4_28 v5_28 v6_28 v7_28 H locs ls hR hP hD hS hl
      rw [fL_areRiders_28] at hR
      refine lv_iload hx hb dL_areRiders_28 (lv_at hl 7 rfl) ?_
      refine lv_aload_n hx hb dL_areRiders_30 rfl (lv_at hl 1 rfl) ?_
      refine lv_iconst (v := 2) hx hb dL_areRiders_31 ic_2 ?_
      refine va_iald hx hb hK hP 0 0 rfl rfl vi_2_8 dL_areRiders_32 ?_
      refine lv_icmp_ge (tgt := 319) hx hb dL_areRiders_33 (by decide) (fun c33 => ?_) (fun c33 => ?_)
      · replace hR := it_t hR c33
        exact hB319 S4_28h v4_28 v5_28 v6_28 H _ ls hR hP hD hS (lv_sub hl [0, 1, 4, 5, 6] rfl)
      · replace hR := it_f hR c33
        refine lv_iload hx hb dL_areRiders_36 (lv_at hl 4 rfl) ?_
        refine lv_if_eq (tgt := 319) hx hb dL_areRiders_38 (by decide) (fun c38 => ?_) (fun c38 => ?_)
        · replace hR := it_t hR c38
          exact hB319 S4_28h v4_28 v5_28 v6_28 H _ ls hR hP hD hS (lv_sub hl [0, 1, 4, 5, 6] rfl)
        · replace hR := it_f hR c38
          refine lv_aload_n hx hb dL_areRiders_41 rfl (lv_at hl 2 rfl) ?_
          refine lv_iconst (v := 5) hx hb dL_areRiders_42 ic_5 ?_
          refine lv_iload hx hb dL_areRiders_43 (lv_at hl 7 rfl) ?_
          refine lv_imul hx hb dL_areRiders_45 ?_
          refine lv_iconst (v := 2) hx hb dL_areRiders_46 ic_2 ?_
          refine lv_iadd hx hb dL_areRiders_47 ?_
          replace hR := gi_e hR
          obtain ⟨i48, hR⟩ := hR
          refine va_iald hx hb hK hP 1 0 rfl rfl i48 dL_areRiders_48 ?_
          refine lv_if_lt (tgt := 56) hx hb dL_areRiders_49 (by decide) (fun c49 => ?_) (fun c49 => ?_)
          · replace hR := it_t hR c49
            refine lv_iconst (v := 0) hx hb dL_areRiders_56 ic_0 ?_
            exact hB57 S4_28h v5_28 v6_28 v7_28 (0 : Int32) H _ ls hR hP hD hS (lv_sub hl [0, 1, 2, 3, 5, 6, 7] rfl)
          · replace hR := it_f hR c49
            refine lv_iconst (v := 1) hx hb dL_areRiders_52 ic_1 ?_
            refine lv_goto (tgt := 57) hx hb dL_areRiders_53 (by decide) ?_
            exact hB57 S4_28h v5_28 v6_28 v7_28 (1 : Int32) H _ ls hR hP hD hS (lv_sub hl [0, 1, 2, 3, 5, 6, 7] rfl)
  have hB17 : ∀ (S4_17h : T5) (t0_17 : Int32) (H : Heap) (locs : List Loc) (ls : Array Slot), fL_areRiders_17 S1 S2 S3 S4_17h t0_17 = some (r, u4) → va_P (dC, dI) vwCl (fl [[(b1, .inl (cs 0, 8, .inl S1))], [(b2, .inl (cs 0, 40, .inl S2))], [(b3, .inl (cs 0, 32, .inl S3))], (w_X10 ad (0) cs en S4_17h)]) H → va_D A (fl [[(b1, .inl (cs 0, 8, .inl S1))], [(b2, .inl (cs 0, 40, .inl S2))], [(b3, .inl (cs 0, 32, .inl S3))], (w_X10 ad (0) cs en S4_17h)]) → va_S A s.heap H locs → lv_has ls 9 [(0, .ref (ad 0)), (1, .ref b1), (2, .ref b2), (3, .ref b3)] → W p l e (headSpec wsL_areRiders ({ frames := 5, cells := 0, slots := 0, locals := 110 } : Room)).room s m ([.ref (ad 0), .ref b1, .ref b2, .ref b3] : List Value).toArray below meth c H locs 0 0 (MQ below (QI dC dI (tyL cs) A (fl [[(b1, .inl (cs 0, 8, .inl S1))], [(b2, .inl (cs 0, 40, .inl S2))], [(b3, .inl (cs 0, 32, .inl S3))], (w_X10 ad (0) cs en u4)]) r) ([.ref (ad 0), .ref b1, .ref b2, .ref b3] : List Value).toArray s 0 0 A) (F0 m 17 ls [.int t0_17]) := by
    intro S4_17h t0_17 H locs ls hR hP hD hS hl
    refine lv_istore (lv' := [(4, .int t0_17), (0, .ref (ad 0)), (1, .ref b1), (2, .ref b2), (3, .ref b3)]) hx hb dL_areRiders_17 hl (Nat.le_of_ble_eq_true rfl) rfl (fun ls hl => ?_)
    refine lv_iconst (v := 0) hx hb dL_areRiders_19 ic_0 ?_
    refine lv_istore (lv' := [(5, .int (0 : Int32)), (4, .int t0_17), (0, .ref (ad 0)), (1, .ref b1), (2, .ref b2), (3, .ref b3)]) hx hb dL_areRiders_20 hl (Nat.le_of_ble_eq_true rfl) rfl (fun ls hl => ?_)
    refine lv_iconst (v := 0) hx hb dL_areRiders_22 ic_0 ?_
    refine lv_istore (lv' := [(6, .int (0 : Int32)), (5, .int (0 : Int32)), (4, .int t0_17), (0, .ref (ad 0)), (1, .ref b1), (2, .ref b2), (3, .ref b3)]) hx hb dL_areRiders_23 hl (Nat.le_of_ble_eq_true rfl) rfl (fun ls hl => ?_)
    refine lv_iconst (v := 0) hx hb dL_areRiders_25 ic_0 ?_
    refine lv_istore (lv' := [(7, .int (0 : Int32)), (6, .int (0 : Int32)), (5, .int (0 : Int32)), (4, .int t0_17), (0, .ref (ad 0)), (1, .ref b1), (2, .ref b2), (3, .ref b3)]) hx hb dL_areRiders_26 hl (Nat.le_of_ble_eq_true rfl) rfl (fun ls hl => ?_)
    exact hB28 fuel S4_17h t0_17 (0 : Int32) (0 : Int32) (0 : Int32) H _ ls hR hP hD hS (lv_sub hl [4, 5, 6, 7, 3, 2, 1, 0] rfl)
  refine lv_aload_n hx hb dL_areRiders_0 rfl (lv_at hl 0 rfl) ?_
  refine lv_aload_n hx hb dL_areRiders_1 rfl (lv_at hl 1 rfl) ?_
  refine lv_iconst (v := 2) hx hb dL_areRiders_2 ic_2 ?_
  refine va_iald hx hb hK hP 0 0 rfl rfl vi_2_8 dL_areRiders_3 ?_
  refine lv_iconst (v := 0) hx hb dL_areRiders_4 ic_0 ?_
  replace hR := bd_e hR
  obtain ⟨q5, gq5, hR⟩ := hR
  refine cm_Vi (As := [.int (S1  (2 : Int32).toNatClampNeg), .int (0 : Int32)]) (rest := []) (L := [[(b1, .inl (cs 0, 8, .inl S1))], [(b2, .inl (cs 0, 40, .inl S2))], [(b3, .inl (cs 0, 32, .inl S3))], (w_X10 ad (0) cs en S4)]) (L' := [[(b1, .inl (cs 0, 8, .inl S1))], [(b2, .inl (cs 0, 40, .inl S2))], [(b3, .inl (cs 0, 32, .inl S3))], (w_X10 ad (0) cs en S4)]) (Wc := [(w_X10 ad (0) cs en S4)]) (Wc' := [(w_X10 ad (0) cs en S4)]) (is := [3]) (js := [0, 1, 2]) ⟨hx, hb, hml, hown, hts⟩ (k_X10_riderOf l dC dI cs ad en s.heap.size S4 (S1  (2 : Int32).toNatClampNeg) (0 : Int32) q5 gq5) (cwV 2 hts gL_areRiders_X10_riderOf rfl rfl rfl cd_X10_riderOf ⟨Nat.le_of_ble_eq_true rfl, Nat.le_of_ble_eq_true rfl⟩) hK hP hD hS hA ⟨rfl, rfl, rfl, rfl, rfl, rfl⟩ (jn_nd (is := [3]) hD rfl rfl) 3 8 rfl rfl rfl rfl rfl hl.1 (Nat.le_of_ble_eq_true rfl) dL_areRiders_5 ⟨Nat.le_of_ble_eq_true rfl, Nat.le_of_ble_eq_true rfl⟩ (fun H5 locs5 hP' hD' hS' => ?_)
  replace hS := hS'
  replace hP : va_P (dC, dI) vwCl (fl [[(b1, .inl (cs 0, 8, .inl S1))], [(b2, .inl (cs 0, 40, .inl S2))], [(b3, .inl (cs 0, 32, .inl S3))], (w_X10 ad (0) cs en S4)]) H5 := hP'
  replace hD : va_D A (fl [[(b1, .inl (cs 0, 8, .inl S1))], [(b2, .inl (cs 0, 40, .inl S2))], [(b3, .inl (cs 0, 32, .inl S3))], (w_X10 ad (0) cs en S4)]) := hD'
  clear hP' hD' hS'
  refine lv_iconst (v := (-1)) hx hb dL_areRiders_8 ic_m1 ?_
  refine lv_icmp_ne (tgt := 16) hx hb dL_areRiders_9 (by decide) (fun c9 => ?_) (fun c9 => ?_)
  · replace hR := it_f hR c9
    refine lv_iconst (v := 0) hx hb dL_areRiders_16 ic_0 ?_
    exact hB17 S4 (0 : Int32) H5 _ ls hR hP hD hS (lv_sub hl [0, 1, 2, 3] rfl)
  · replace hR := it_t hR c9
    refine lv_iconst (v := 1) hx hb dL_areRiders_12 ic_1 ?_
    refine lv_goto (tgt := 17) hx hb dL_areRiders_13 (by decide) ?_
    exact hB17 S4 (1 : Int32) H5 _ ls hR hP hD hS (lv_sub hl [0, 1, 2, 3] rfl)
