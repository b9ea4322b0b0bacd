set_option maxHeartbeats 8000000 in
set_option maxRecDepth 100000 in
theorem k_L_pauses (l : Launch) (dC : Nat → ClassId) (dI : Nat → Nat → Nat) (cs : Nat → ClassId) (ad : Nat → Nat) (en : Nat → Nat) (b1 b2 b3 b4 : Nat) (sz : Nat) (S1 : T1) (S2 : T1) (S3 : T1) (S4 : T1) (S5 : T5) (p5 : Int32) (r : Int32) (u1 : T1) (u3 : T1) (u4 : T1) (u5 : T5) (hR : fL_pauses S1 S2 S3 S4 S5 p5 = some (r, u1, u3, u4, u5)) : Met l yL_pauses wsL_pauses ({ frames := 6, cells := 0, slots := 0, locals := 136 } : Room) (va_Pc [.ref (ad 0), .ref b1, .ref b2, .ref b3, .ref b4, .int p5] (pW dC dI (tyL cs) (fl [[(b1, .inl (cs 0, 8, .inl S1))], [(b2, .inl (cs 0, 24, .inl S2))], [(b3, .inl (cs 0, 48, .inl S3))], [(b4, .inl (cs 0, 48, .inl S4))], (w_X10 ad (0) cs en S5)]) sz)) (QI dC dI (tyL cs) (va_A (fl [[(b1, .inl (cs 0, 8, .inl S1))], [(b2, .inl (cs 0, 24, .inl S2))], [(b3, .inl (cs 0, 48, .inl S3))], [(b4, .inl (cs 0, 48, .inl S4))], (w_X10 ad (0) cs en S5)]) sz) (fl [[(b1, .inl (cs 0, 8, .inl u1))], [(b2, .inl (cs 0, 24, .inl S2))], [(b3, .inl (cs 0, 48, .inl u3))], [(b4, .inl (cs 0, 48, .inl u4))], (w_X10 ad (0) cs en u5)]) r) 0 0 (va_A (fl [[(b1, .inl (cs 0, 8, .inl S1))], [(b2, .inl (cs 0, 24, .inl S2))], [(b3, .inl (cs 0, 48, .inl S3))], [(b4, .inl (cs 0, 48, .inl S4))], (w_X10 ad (0) cs en S5)]) sz) := by
  refine mt_ofC (own := RL) (cc := cL_pauses) (maxL := 11) (ret := (some .boolean)) (Qc := fun A => QI dC dI (tyL cs) A (fl [[(b1, .inl (cs 0, 8, .inl u1))], [(b2, .inl (cs 0, 24, .inl S2))], [(b3, .inl (cs 0, 48, .inl u3))], [(b4, .inl (cs 0, 48, .inl u4))], (w_X10 ad (0) cs en u5)]) r) rfl (by decide) rfl (Nat.le_of_ble_eq_true rfl) (fun p e s m below meth c A ls hsz hx hb hr hts hown hlocks hml hA hK hP hD hS hl => ?_)
  subst hsz
  have hl : lv_has ls 11 [(0, .ref (ad 0)), (1, .ref b1), (2, .ref b2), (3, .ref b3), (4, .ref b4), (5, .int p5)] := hl
  have hB27 : ∀ (n27 : Nat), ∀ (S1_27h : T1) (S3_27h : T1) (S4_27h : T1) (S5_27h : T5) (v6_27 : Int32) (v7_27 : Int32) (v8_27 : Int32) (H : Heap) (locs : List Loc) (ls : Array Slot), fL_pauses_27 S2 p5 n27 S1_27h S3_27h S4_27h S5_27h v6_27 v7_27 v8_27 = some (r, u1, u3, u4, u5) → va_P (dC, dI) vwCl (fl [[(b1, .inl (cs 0, 8, .inl S1_27h))], [(b2, .inl (cs 0, 24, .inl S2))], [(b3, .inl (cs 0, 48, .inl S3_27h))], [(b4, .inl (cs 0, 48, .inl S4_27h))], (w_X10 ad (0) cs en S5_27h)]) H → va_D A (fl [[(b1, .inl (cs 0, 8, .inl S1_27h))], [(b2, .inl (cs 0, 24, .inl S2))], [(b3, .inl (cs 0, 48, .inl S3_27h))], [(b4, .inl (cs 0, 48, .inl S4_27h))], (w_X10 ad (0) cs en S5_27h)]) → va_S A s.heap H locs → lv_has ls 11 [(0, .ref (ad 0)), (1, .ref b1), (2, .ref b2), (3, .ref b3), (4, .ref b4), (6, .int v6_27), (7, .int v7_27), (8, .int v8_27)] → W p l e (headSpec wsL_pauses ({ frames := 6, cells := 0, slots := 0, locals := 136 } : Room)).room s m ([.ref (ad 0), .ref b1, .ref b2, .ref b3, .ref b4, .int p5] : List Value).toArray below meth c H locs 0 0 (MQ below (QI dC dI (tyL cs) A (fl [[(b1, .inl (cs 0, 8, .inl u1))], [(b2, .inl (cs 0, 24, .inl S2))], [(b3, .inl (cs 0, 48, .inl u3))], [(b4, .inl (cs 0, 48, .inl u4))], (w_X10 ad (0) cs en u5)]) r) ([.ref (ad 0), .ref b1, .ref b2, .ref b3, .ref b4, .int p5] : List Value).toArray s 0 0 A) (F0 m 27 ls []) := by
    intro n27
    induction n27 with
    | zero =>
      intro S1_27h S3_27h S4_27h S5_27h v6_27 v7_27 v8_27 H locs ls hR hP hD hS hl
      exact nn_e hR
    | succ n27 hI27 =>
      have hB44 : ∀ (n44 : Nat), ∀ (S1_44h : T1) (S3_44h : T1) (S4_44h : T1) (S5_44h : T5) (v6_44 : Int32) (v7_44 : Int32) (v8_44 : Int32) (v9_44 : Int32) (H : Heap) (locs : List Loc) (ls : Array Slot), fL_pauses_44 (fL_pauses_27 S2 p5 n27) S2 p5 n44 S1_44h S3_44h S4_44h S5_44h v6_44 v7_44 v8_44 v9_44 = some (r, u1, u3, u4, u5) → va_P (dC, dI) vwCl (fl [[(b1, .inl (cs 0, 8, .inl S1_44h))], [(b2, .inl (cs 0, 24, .inl S2))], [(b3, .inl (cs 0, 48, .inl S3_44h))], [(b4, .inl (cs 0, 48, .inl S4_44h))], (w_X10 ad (0) cs en S5_44h)]) H → va_D A (fl [[(b1, .inl (cs 0, 8, .inl S1_44h))], [(b2, .inl (cs 0, 24, .inl S2))], [(b3, .inl (cs 0, 48, .inl S3_44h))], [(b4, .inl (cs 0, 48, .inl S4_44h))], (w_X10 ad (0) cs en S5_44h)]) → va_S A s.heap H locs → lv_has ls 11 [(0, .ref (ad 0)), (1, .ref b1), (2, .ref b2), (3, .ref b3), (4, .ref b4), (6, .int v6_44), (7, .int v7_44), (8, .int v8_44), (9, .int v9_44)] → W p l e (headSpec wsL_pauses ({ frames := 6, cells := 0, slots := 0, locals := 136 } : Room)).room s m ([.ref (ad 0), .ref b1, .ref b2, .ref b3, .ref b4, .int p5] : List Value).toArray below meth c H locs 0 0 (MQ below (QI dC dI (tyL cs) A (fl [[(b1, .inl (cs 0, 8, .inl u1))], [(b2, .inl (cs 0, 24, .inl S2))], [(b3, .inl (cs 0, 48, .inl u3))], [(b4, .inl (cs 0, 48, .inl u4))], (w_X10 ad (0) cs en u5)]) r) ([.ref (ad 0), .ref b1, .ref b2, .ref b3, .ref b4, .int p5] : List Value).toArray s 0 0 A) (F0 m 44 ls []) := by
        intro n44
        induction n44 with
        | zero =>
          intro S1_44h S3_44h S4_44h S5_44h v6_44 v7_44 v8_44 v9_44 H locs ls hR hP hD hS hl
          exact nn_e hR
        | succ n44 hI44 =>
          have hB153 : ∀ (S1_153h : T1) (S3_153h : T1) (S4_153h : T1) (S5_153h : T5) (v6_153 : Int32) (v7_153 : Int32) (v8_153 : Int32) (v9_153 : Int32) (H : Heap) (locs : List Loc) (ls : Array Slot), fL_pauses_153 (fL_pauses_27 S2 p5 n27) (fL_pauses_44 (fL_pauses_27 S2 p5 n27) S2 p5 n44) S2 p5 S1_153h S3_153h S4_153h S5_153h v6_153 v7_153 v8_153 v9_153 = some (r, u1, u3, u4, u5) → va_P (dC, dI) vwCl (fl [[(b1, .inl (cs 0, 8, .inl S1_153h))], [(b2, .inl (cs 0, 24, .inl S2))], [(b3, .inl (cs 0, 48, .inl S3_153h))], [(b4, .inl (cs 0, 48, .inl S4_153h))], (w_X10 ad (0) cs en S5_153h)]) H → va_D A (fl [[(b1, .inl (cs 0, 8, .inl S1_153h))], [(b2, .inl (cs 0, 24, .inl S2))], [(b3, .inl (cs 0, 48, .inl S3_153h))], [(b4, .inl (cs 0, 48, .inl S4_153h))], (w_X10 ad (0) cs en S5_153h)]) → va_S A s.heap H locs → lv_has ls 11 [(0, .ref (ad 0)), (1, .ref b1), (2, .ref b2), (3, .ref b3), (4, .ref b4), (6, .int v6_153), (7, .int v7_153), (8, .int v8_153), (9, .int v9_153)] → W p l e (headSpec wsL_pauses ({ frames := 6, cells := 0, slots := 0, locals := 136 } : Room)).room s m ([.ref (ad 0), .ref b1, .ref b2, .ref b3, .ref b4, .int p5] : List Value).toArray below meth c H locs 0 0 (MQ below (QI dC dI (tyL cs) A (fl [[(b1, .inl (cs 0, 8, .inl u1))], [(b2, .inl (cs 0, 24, .inl S2))], [(b3, .inl (cs 0, 48, .inl u3))], [(b4, .inl (cs 0, 48, .inl u4))], (w_X10 ad (0) cs en u5)]) r) ([.ref (ad 0), .ref b1, .ref b2, .ref b3, .ref b4, .int p5] : List Value).toArray s 0 0 A) (F0 m 153 ls []) := by
            intro S1_153h S3_153h S4_153h S5_153h v6_153 v7_153 v8_153 v9_153 H locs ls hR hP hD hS hl
            refine lv_iinc (v := (v9_153 + 1)) (lv' := [(9, .int (v9_153 + 1)), (0, .ref (ad 0)), (1, .ref b1), (2, .ref b2), (3, .ref b3), (4, .ref b4), (6, .int v6_153), (7, .int v7_153), (8, .int v8_153)]) hx hb dL_pauses_153 hl (k := 8) rfl rfl (Nat.le_of_ble_eq_true rfl) rfl (fun ls hl => ?_)
            refine lv_goto (tgt := 44) hx hb dL_pauses_156 (by decide) ?_
            exact hI44 S1_153h S3_153h S4_153h S5_153h v6_153 v7_153 v8_153 (v9_153 + 1) H _ ls hR hP hD hS (lv_sub hl [1, 2, 3, 4, 5, 6, 7, 8, 0] rfl)
          have hB125 : ∀ (S1_125h : T1) (S3_125h : T1) (S4_125h : T1) (S5_125h : T5) (v6_125 : Int32) (v7_125 : Int32) (v8_125 : Int32) (v9_125 : Int32) (v10_125 : Int32) (H : Heap) (locs : List Loc) (ls : Array Slot), fL_pauses_125 (fL_pauses_27 S2 p5 n27) (fL_pauses_44 (fL_pauses_27 S2 p5 n27) S2 p5 n44) S2 p5 S1_125h S3_125h S4_125h S5_125h v6_125 v7_125 v8_125 v9_125 v10_125 = some (r, u1, u3, u4, u5) → va_P (dC, dI) vwCl (fl [[(b1, .inl (cs 0, 8, .inl S1_125h))], [(b2, .inl (cs 0, 24, .inl S2))], [(b3, .inl (cs 0, 48, .inl S3_125h))], [(b4, .inl (cs 0, 48, .inl S4_125h))], (w_X10 ad (0) cs en S5_125h)]) H → va_D A (fl [[(b1, .inl (cs 0, 8, .inl S1_125h))], [(b2, .inl (cs 0, 24, .inl S2))], [(b3, .inl (cs 0, 48, .inl S3_125h))], [(b4, .inl (cs 0, 48, .inl S4_125h))], (w_X10 ad (0) cs en S5_125h)]) → va_S A s.heap H locs → lv_has ls 11 [(0, .ref (ad 0)), (1, .ref b1), (2, .ref b2), (3, .ref b3), (4, .ref b4), (6, .int v6_125), (7, .int v7_125), (8, .int v8_125), (9, .int v9_125), (10, .int v10_125)] → W p l e (headSpec wsL_pauses ({ frames := 6, cells := 0, slots := 0, locals := 136 } : Room)).room s m ([.ref (ad 0), .ref b1, .ref b2, .ref b3, .ref b4, .int p5] : List Value).toArray below meth c H locs 0 0 (MQ below (QI dC dI (tyL cs) A (fl [[(b1, .inl (cs 0, 8, .inl u1))], [(b2, .inl (cs 0, 24, .inl S2))], [(b3, .inl (cs 0, 48, .inl u3))], [(b4, .inl (cs 0, 48, .inl u4))], (w_X10 ad (0) cs en u5)]) r) ([.ref (ad 0), .ref b1, .ref b2, .ref b3, .ref b4, .int p5] : List Value).toArray s 0 0 A) (F0 m 125 ls []) := by
            intro S1_125h S3_125h S4_125h S5_125h v6_125 v7_125 v8_125 v9_125 v10_125 H locs ls hR hP hD hS hl
            refine lv_iload hx hb dL_pauses_125 (lv_at hl 9 rfl) ?_
            refine lv_aload_n hx hb dL_pauses_127 rfl (lv_at hl 1 rfl) ?_
            refine lv_iconst (v := 0) hx hb dL_pauses_128 ic_0 ?_
            refine va_iald hx hb hK hP 0 0 rfl rfl vi_0_8 dL_pauses_129 ?_
            refine lv_icmp_ge (tgt := 153) hx hb dL_pauses_130 (by decide) (fun c130 => ?_) (fun c130 => ?_)
            · replace hR := it_t hR c130
              exact hB153 S1_125h S3_125h S4_125h S5_125h v6_125 v7_125 v8_125 v9_125 H _ ls hR hP hD hS (lv_sub hl [0, 1, 2, 3, 4, 5, 6, 7, 8] rfl)
            · replace hR := it_f hR c130
              refine lv_aload_n hx hb dL_pauses_133 rfl (lv_at hl 3 rfl) ?_
              refine lv_iconst (v := 3) hx hb dL_pauses_134 ic_3 ?_
              refine lv_iload hx hb dL_pauses_135 (lv_at hl 8 rfl) ?_
              refine lv_imul hx hb dL_pauses_137 ?_
              refine lv_iconst (v := 0) hx hb dL_pauses_138 ic_0 ?_
              replace hR := gi_e hR
              obtain ⟨i139, hR⟩ := hR
              refine va_iast hx hb hK hP hD hS 2 0 rfl rfl i139 dL_pauses_139 (fun H139 locs139 hP' hD' hS' => ?_)
              replace hS := hS'
              have hP' : va_P (dC, dI) vwCl (fl [[(b1, .inl (cs 0, 8, .inl S1_125h))], [(b2, .inl (cs 0, 24, .inl S2))], [(b3, .inl (cs 0, 48, .inl (sU S3_125h ((3 : Int32) * v9_125).toNatClampNeg (0 : Int32))))], [(b4, .inl (cs 0, 48, .inl S4_125h))], (w_X10 ad (0) cs en S5_125h)]) H139 := hP'
              have hD' : va_D A (fl [[(b1, .inl (cs 0, 8, .inl S1_125h))], [(b2, .inl (cs 0, 24, .inl S2))], [(b3, .inl (cs 0, 48, .inl (sU S3_125h ((3 : Int32) * v9_125).toNatClampNeg (0 : Int32))))], [(b4, .inl (cs 0, 48, .inl S4_125h))], (w_X10 ad (0) cs en S5_125h)]) := hD'
              replace hR := bn_e hR
              obtain ⟨S3_139, eS3_139, hR⟩ := hR
              replace hP : va_P (dC, dI) vwCl (fl [[(b1, .inl (cs 0, 8, .inl S1_125h))], [(b2, .inl (cs 0, 24, .inl S2))], [(b3, .inl (cs 0, 48, .inl S3_139))], [(b4, .inl (cs 0, 48, .inl S4_125h))], (w_X10 ad (0) cs en S5_125h)]) H139 := by rw [eS3_139]; exact hP'
              replace hD : va_D A (fl [[(b1, .inl (cs 0, 8, .inl S1_125h))], [(b2, .inl (cs 0, 24, .inl S2))], [(b3, .inl (cs 0, 48, .inl S3_139))], [(b4, .inl (cs 0, 48, .inl S4_125h))], (w_X10 ad (0) cs en S5_125h)]) := by rw [eS3_139]; exact hD'
              clear hP' hD' hS'
              refine lv_aload_n hx hb dL_pauses_140 rfl (lv_at hl 3 rfl) ?_
              refine lv_iconst (v := 3) hx hb dL_pauses_141 ic_3 ?_
              refine lv_iload hx hb dL_pauses_142 (lv_at hl 8 rfl) ?_
              refine lv_imul hx hb dL_pauses_144 ?_
              refine lv_iconst (v := 1) hx hb dL_pauses_145 ic_1 ?_
              refine lv_iadd hx hb dL_pauses_146 ?_
              refine lv_iload hx hb dL_pauses_147 (lv_at hl 9 rfl) ?_
              replace hR := gi_e hR
              obtain ⟨i149, hR⟩ := hR
              refine va_iast hx hb hK hP hD hS 2 0 rfl rfl i149 dL_pauses_149 (fun H149 locs149 hP' hD' hS' => ?_)
              replace hS := hS'
              have hP' : va_P (dC, dI) vwCl (fl [[(b1, .inl (cs 0, 8, .inl S1_125h))], [(b2, .inl (cs 0, 24, .inl S2))], [(b3, .inl (cs 0, 48, .inl (sU S3_139 (((3 : Int32) * v9_125) + 1).toNatClampNeg v10_125)))], [(b4, .inl (cs 0, 48, .inl S4_125h))], (w_X10 ad (0) cs en S5_125h)]) H149 := hP'
              have hD' : va_D A (fl [[(b1, .inl (cs 0, 8, .inl S1_125h))], [(b2, .inl (cs 0, 24, .inl S2))], [(b3, .inl (cs 0, 48, .inl (sU S3_139 (((3 : Int32) * v9_125) + 1).toNatClampNeg v10_125)))], [(b4, .inl (cs 0, 48, .inl S4_125h))], (w_X10 ad (0) cs en S5_125h)]) := hD'
              replace hR := bn_e hR
              obtain ⟨S3_149, eS3_149, hR⟩ := hR
              replace hP : va_P (dC, dI) vwCl (fl [[(b1, .inl (cs 0, 8, .inl S1_125h))], [(b2, .inl (cs 0, 24, .inl S2))], [(b3, .inl (cs 0, 48, .inl S3_149))], [(b4, .inl (cs 0, 48, .inl S4_125h))], (w_X10 ad (0) cs en S5_125h)]) H149 := by rw [eS3_149]; exact hP'
              replace hD : va_D A (fl [[(b1, .inl (cs 0, 8, .inl S1_125h))], [(b2, .inl (cs 0, 24, .inl S2))], [(b3, .inl (cs 0, 48, .inl S3_149))], [(b4, .inl (cs 0, 48, .inl S4_125h))], (w_X10 ad (0) cs en S5_125h)]) := by rw [eS3_149]; exact hD'
              clear hP' hD' hS'
              refine lv_iinc (v := (v7_125 + 1)) (lv' := [(7, .int (v7_125 + 1)), (0, .ref (ad 0)), (1, .ref b1), (2, .ref b2), (3, .ref b3), (4, .ref b4), (6, .int v6_125), (8, .int v8_125), (9, .int v9_125), (10, .int v10_125)]) hx hb dL_pauses_150 hl (k := 6) rfl rfl (Nat.le_of_ble_eq_true rfl) rfl (fun ls hl => ?_)
              exact hB153 S1_125h S3_149 S4_125h S5_125h v6_125 (v7_125 + 1) v8_125 v9_125 H149 _ ls hR hP hD hS (lv_sub hl [1, 2, 3, 4, 5, 6, 0, 7, 8] rfl)
          have hB100 : ∀ (n100 : Nat), ∀ (S1_100h : T1) (S3_100h : T1) (S4_100h : T1) (S5_100h : T5) (v6_100 : Int32) (v7_100 : Int32) (v8_100 : Int32) (v9_100 : Int32) (v10_100 : Int32) (H : Heap) (locs : List Loc) (ls : Array Slot), fL_pauses_100 (fL_pauses_27 S2 p5 n27) (fL_pauses_44 (fL_pauses_27 S2 p5 n27) S2 p5 n44) S2 p5 n100 S1_100h S3_100h S4_100h S5_100h v6_100 v7_100 v8_100 v9_100 v10_100 = some (r, u1, u3, u4, u5) → va_P (dC, dI) vwCl (fl [[(b1, .inl (cs 0, 8, .inl S1_100h))], [(b2, .inl (cs 0, 24, .inl S2))], [(b3, .inl (cs 0, 48, .inl S3_100h))], [(b4, .inl (cs 0, 48, .inl S4_100h))], (w_X10 ad (0) cs en S5_100h)]) H → va_D A (fl [[(b1, .inl (cs 0, 8, .inl S1_100h))], [(b2, .inl (cs 0, 24, .inl S2))], [(b3, .inl (cs 0, 48, .inl S3_100h))], [(b4, .inl (cs 0, 48, .inl S4_100h))], (w_X10 ad (0) cs en S5_100h)]) → va_S A s.heap H locs → lv_has ls 11 [(0, .ref (ad 0)), (1, .ref b1), (2, .ref b2), (3, .ref b3), (4, .ref b4), (6, .int v6_100), (7, .int v7_100), (8, .int v8_100), (9, .int v9_100), (10, .int v10_100)] → W p l e (headSpec wsL_pauses ({ frames := 6, cells := 0, slots := 0, locals := 136 } : Room)).room s m ([.ref (ad 0), .ref b1, .ref b2, .ref b3, .ref b4, .int p5] : List Value).toArray below meth c H locs 0 0 (MQ below (QI dC dI (tyL cs) A (fl [[(b1, .inl (cs 0, 8, .inl u1))], [(b2, .inl (cs 0, 24, .inl S2))], [(b3, .inl (cs 0, 48, .inl u3))], [(b4, .inl (cs 0, 48, .inl u4))], (w_X10 ad (0) cs en u5)]) r) ([.ref (ad 0), .ref b1, .ref b2, .ref b3, .ref b4, .int p5] : List Value).toArray s 0 0 A) (F0 m 100 ls []) := by
            intro n100
            induction n100 with
            | zero =>
              intro S1_100h S3_100h S4_100h S5_100h v6_100 v7_100 v8_100 v9_100 v10_100 H locs ls hR hP hD hS hl
              exact nn_e hR
            | succ n100 hI100 =>
              intro S1_100h S3_100h S4_100h S5_100h v6_100 v7_100 v8_100 v9_100 v10_100 H locs ls hR hP hD hS hl
              rw [fL_pauses_100] at hR
              refine lv_iload hx hb dL_pauses_100 (lv_at hl 9 rfl) ?_
              refine lv_aload_n hx hb dL_pauses_102 rfl (lv_at hl 1 rfl) ?_
              refine lv_iconst (v := 0) hx hb dL_pauses_103 ic_0 ?_
              refine va_iald hx hb hK hP 0 0 rfl rfl vi_0_8 dL_pauses_104 ?_
              refine lv_icmp_ge (tgt := 125) hx hb dL_pauses_105 (by decide) (fun c105 => ?_) (fun c105 => ?_)
              · replace hR := it_t hR c105
                exact hB125 S1_100h S3_100h S4_100h S5_100h v6_100 v7_100 v8_100 v9_100 v10_100 H _ ls hR hP hD hS (lv_sub hl [0, 1, 2, 3, 4, 5, 6, 7, 8, 9] rfl)
              · replace hR := it_f hR c105
                refine lv_aload_n hx hb dL_pauses_108 rfl (lv_at hl 1 rfl) ?_
                refine lv_aload_n hx hb dL_pauses_109 rfl (lv_at hl 2 rfl) ?_
                refine lv_aload_n hx hb dL_pauses_110 rfl (lv_at hl 3 rfl) ?_
                refine lv_iload hx hb dL_pauses_111 (lv_at hl 9 rfl) ?_
                replace hR := bd_e hR
                obtain ⟨q113, gq113, hR⟩ := hR
                refine cm_Si (As := [.ref b1, .ref b2, .ref b3, .int v10_100]) (rest := []) (L := [[(b1, .inl (cs 0, 8, .inl S1_100h))], [(b2, .inl (cs 0, 24, .inl S2))], [(b3, .inl (cs 0, 48, .inl S3_100h))], [(b4, .inl (cs 0, 48, .inl S4_100h))], (w_X10 ad (0) cs en S5_100h)]) (L' := [[(b1, .inl (cs 0, 8, .inl S1_100h))], [(b2, .inl (cs 0, 24, .inl S2))], [(b3, .inl (cs 0, 48, .inl S3_100h))], [(b4, .inl (cs 0, 48, .inl S4_100h))], (w_X10 ad (0) cs en S5_100h)]) (Wc := [[(b1, .inl (cs 0, 8, .inl S1_100h))], [(b2, .inl (cs 0, 24, .inl S2))], [(b3, .inl (cs 0, 48, .inl S3_100h))]]) (Wc' := [[(b1, .inl (cs 0, 8, .inl S1_100h))], [(b2, .inl (cs 0, 24, .inl S2))], [(b3, .inl (cs 0, 48, .inl S3_100h))]]) (is := [0, 1, 2]) (js := [3, 4]) ⟨hx, hb, hml, hown, hts⟩ (k_L_free l dC dI cs ad (b1) (b2) (b3) H.size S1_100h S2 S3_100h v10_100 q113 gq113) (va_cwS 4 hts gL_pauses_L_free rfl rfl rfl cd_L_free.2 ⟨Nat.le_of_ble_eq_true rfl, Nat.le_of_ble_eq_true rfl⟩) hK hP hD hS hA ⟨rfl, rfl, rfl, rfl, rfl, rfl⟩ (jn_nd (is := [0, 1, 2]) hD rfl rfl) rfl rfl hl.1 (Nat.le_of_ble_eq_true rfl) dL_pauses_113 ⟨Nat.le_of_ble_eq_true rfl, Nat.le_of_ble_eq_true rfl⟩ (fun H113 locs113 hP' hD' hS' => ?_)
                replace hS := hS'
                replace hP : va_P (dC, dI) vwCl (fl [[(b1, .inl (cs 0, 8, .inl S1_100h))], [(b2, .inl (cs 0, 24, .inl S2))], [(b3, .inl (cs 0, 48, .inl S3_100h))], [(b4, .inl (cs 0, 48, .inl S4_100h))], (w_X10 ad (0) cs en S5_100h)]) H113 := hP'
                replace hD : va_D A (fl [[(b1, .inl (cs 0, 8, .inl S1_100h))], [(b2, .inl (cs 0, 24, .inl S2))], [(b3, .inl (cs 0, 48, .inl S3_100h))], [(b4, .inl (cs 0, 48, .inl S4_100h))], (w_X10 ad (0) cs en S5_100h)]) := hD'
                clear hP' hD' hS'
                refine lv_if_ne (tgt := 125) hx hb dL_pauses_116 (by decide) (fun c116 => ?_) (fun c116 => ?_)
                · replace hR := it_f hR c116
                  exact hB125 S1_100h S3_100h S4_100h S5_100h v6_100 v7_100 v8_100 v9_100 v10_100 H113 _ ls hR hP hD hS (lv_sub hl [0, 1, 2, 3, 4, 5, 6, 7, 8, 9] rfl)
                · replace hR := it_t hR c116
                  refine lv_iinc (v := (v10_100 + 1)) (lv' := [(10, .int (v10_100 + 1)), (0, .ref (ad 0)), (1, .ref b1), (2, .ref b2), (3, .ref b3), (4, .ref b4), (6, .int v6_100), (7, .int v7_100), (8, .int v8_100), (9, .int v9_100)]) hx hb dL_pauses_119 hl (k := 9) rfl rfl (Nat.le_of_ble_eq_true rfl) rfl (fun ls hl => ?_)
                  refine lv_goto (tgt := 100) hx hb dL_pauses_122 (by decide) ?_
                  exact hI100 S1_100h S3_100h S4_100h S5_100h v6_100 v7_100 v8_100 v9_100 (v10_100 + 1) H113 _ ls hR hP hD hS (lv_sub hl [1, 2, 3, 4, 5, 6, 7, 8, 9, 0] rfl)
          intro S1_44h S3_44h S4_44h S5_44h v6_44 v7_44 v8_44 v9_44 H locs ls hR hP hD hS hl
          rw [fL_pauses_44] at hR
          refine lv_iload hx hb dL_pauses_44 (lv_at hl 8 rfl) ?_
          refine lv_aload_n hx hb dL_pauses_46 rfl (lv_at hl 1 rfl) ?_
          refine lv_iconst (v := 1) hx hb dL_pauses_47 ic_1 ?_
          refine va_iald hx hb hK hP 0 0 rfl rfl vi_1_8 dL_pauses_48 ?_
          refine lv_icmp_ge (tgt := 159) hx hb dL_pauses_49 (by decide) (fun c49 => ?_) (fun c49 => ?_)
          · replace hR := it_t hR c49
            refine lv_iinc (v := (v8_44 + 1)) (lv' := [(8, .int (v8_44 + 1)), (0, .ref (ad 0)), (1, .ref b1), (2, .ref b2), (3, .ref b3), (4, .ref b4), (6, .int v6_44), (7, .int v7_44), (9, .int v9_44)]) hx hb dL_pauses_159 hl (k := 7) rfl rfl (Nat.le_of_ble_eq_true rfl) rfl (fun ls hl => ?_)
            refine lv_goto (tgt := 27) hx hb dL_pauses_162 (by decide) ?_
            exact hI27 S1_44h S3_44h S4_44h S5_44h v6_44 v7_44 (v8_44 + 1) H _ ls hR hP hD hS (lv_sub hl [1, 2, 3, 4, 5, 6, 7, 0] rfl)
          · replace hR := it_f hR c49
            refine lv_aload_n hx hb dL_pauses_52 rfl (lv_at hl 3 rfl) ?_
            refine lv_iconst (v := 3) hx hb dL_pauses_53 ic_3 ?_
            refine lv_iload hx hb dL_pauses_54 (lv_at hl 8 rfl) ?_
            refine lv_imul hx hb dL_pauses_56 ?_
            replace hR := gi_e hR
            obtain ⟨i57, hR⟩ := hR
            refine va_iald hx hb hK hP 2 0 rfl rfl i57 dL_pauses_57 ?_
            refine lv_iconst (v := 3) hx hb dL_pauses_58 ic_3 ?_
            refine lv_icmp_ne (tgt := 153) hx hb dL_pauses_59 (by decide) (fun c59 => ?_) (fun c59 => ?_)
            · replace hR := it_f hR c59
              exact hB153 S1_44h S3_44h S4_44h S5_44h v6_44 v7_44 v8_44 v9_44 H _ ls hR hP hD hS (lv_sub hl [0, 1, 2, 3, 4, 5, 6, 7, 8] rfl)
            · replace hR := it_t hR c59
              refine lv_aload hx hb dL_pauses_62 (lv_at hl 4 rfl) ?_
              refine lv_iconst (v := 3) hx hb dL_pauses_64 ic_3 ?_
              refine lv_iload hx hb dL_pauses_65 (lv_at hl 8 rfl) ?_
              refine lv_imul hx hb dL_pauses_67 ?_
              refine lv_iconst (v := 2) hx hb dL_pauses_68 ic_2 ?_
              refine lv_iadd hx hb dL_pauses_69 ?_
              replace hR := gi_e hR
              obtain ⟨i70, hR⟩ := hR
              refine va_iald hx hb hK hP 3 0 rfl rfl i70 dL_pauses_70 ?_
              refine lv_aload_n hx hb dL_pauses_71 rfl (lv_at hl 1 rfl) ?_
              refine lv_iconst (v := 4) hx hb dL_pauses_72 ic_4 ?_
              refine va_iald hx hb hK hP 0 0 rfl rfl vi_4_8 dL_pauses_73 ?_
              refine lv_icmp_le (tgt := 80) hx hb dL_pauses_74 (by decide) (fun c74 => ?_) (fun c74 => ?_)
              · replace hR := it_t hR c74
                refine lv_aload hx hb dL_pauses_80 (lv_at hl 4 rfl) ?_
                refine lv_iconst (v := 3) hx hb dL_pauses_82 ic_3 ?_
                refine lv_iload hx hb dL_pauses_83 (lv_at hl 8 rfl) ?_
                refine lv_imul hx hb dL_pauses_85 ?_
                refine lv_iconst (v := 0) hx hb dL_pauses_86 ic_0 ?_
                replace hR := gi_e hR
                obtain ⟨i87, hR⟩ := hR
                refine va_iast hx hb hK hP hD hS 3 0 rfl rfl i87 dL_pauses_87 (fun H87 locs87 hP' hD' hS' => ?_)
                replace hS := hS'
                have hP' : va_P (dC, dI) vwCl (fl [[(b1, .inl (cs 0, 8, .inl S1_44h))], [(b2, .inl (cs 0, 24, .inl S2))], [(b3, .inl (cs 0, 48, .inl S3_44h))], [(b4, .inl (cs 0, 48, .inl (sU S4_44h ((3 : Int32) * v9_44).toNatClampNeg (0 : Int32))))], (w_X10 ad (0) cs en S5_44h)]) H87 := hP'
                have hD' : va_D A (fl [[(b1, .inl (cs 0, 8, .inl S1_44h))], [(b2, .inl (cs 0, 24, .inl S2))], [(b3, .inl (cs 0, 48, .inl S3_44h))], [(b4, .inl (cs 0, 48, .inl (sU S4_44h ((3 : Int32) * v9_44).toNatClampNeg (0 : Int32))))], (w_X10 ad (0) cs en S5_44h)]) := hD'
                replace hR := bn_e hR
                obtain ⟨S4_87, eS4_87, hR⟩ := hR
                replace hP : va_P (dC, dI) vwCl (fl [[(b1, .inl (cs 0, 8, .inl S1_44h))], [(b2, .inl (cs 0, 24, .inl S2))], [(b3, .inl (cs 0, 48, .inl S3_44h))], [(b4, .inl (cs 0, 48, .inl S4_87))], (w_X10 ad (0) cs en S5_44h)]) H87 := by rw [eS4_87]; exact hP'
                replace hD : va_D A (fl [[(b1, .inl (cs 0, 8, .inl S1_44h))], [(b2, .inl (cs 0, 24, .inl S2))], [(b3, .inl (cs 0, 48, .inl S3_44h))], [(b4, .inl (cs 0, 48, .inl S4_87))], (w_X10 ad (0) cs en S5_44h)]) := by rw [eS4_87]; exact hD'
                clear hP' hD' hS'
                refine lv_aload_n hx hb dL_pauses_88 rfl (lv_at hl 3 rfl) ?_
                refine lv_iconst (v := 3) hx hb dL_pauses_89 ic_3 ?_
                refine lv_iload hx hb dL_pauses_90 (lv_at hl 8 rfl) ?_
                refine lv_imul hx hb dL_pauses_92 ?_
                refine lv_iconst (v := 2) hx hb dL_pauses_93 ic_2 ?_
                refine lv_iadd hx hb dL_pauses_94 ?_
                refine lv_iconst (v := 0) hx hb dL_pauses_95 ic_0 ?_
                replace hR := gi_e hR
                obtain ⟨i96, hR⟩ := hR
                refine va_iast hx hb hK hP hD hS 2 0 rfl rfl i96 dL_pauses_96 (fun H96 locs96 hP' hD' hS' => ?_)
                replace hS := hS'
                have hP' : va_P (dC, dI) vwCl (fl [[(b1, .inl (cs 0, 8, .inl S1_44h))], [(b2, .inl (cs 0, 24, .inl S2))], [(b3, .inl (cs 0, 48, .inl (sU S3_44h (((3 : Int32) * v9_44) + 2).toNatClampNeg (0 : Int32))))], [(b4, .inl (cs 0, 48, .inl S4_87))], (w_X10 ad (0) cs en S5_44h)]) H96 := hP'
                have hD' : va_D A (fl [[(b1, .inl (cs 0, 8, .inl S1_44h))], [(b2, .inl (cs 0, 24, .inl S2))], [(b3, .inl (cs 0, 48, .inl (sU S3_44h (((3 : Int32) * v9_44) + 2).toNatClampNeg (0 : Int32))))], [(b4, .inl (cs 0, 48, .inl S4_87))], (w_X10 ad (0) cs en S5_44h)]) := hD'
                replace hR := bn_e hR
                obtain ⟨S3_96, eS3_96, hR⟩ := hR
                replace hP : va_P (dC, dI) vwCl (fl [[(b1, .inl (cs 0, 8, .inl S1_44h))], [(b2, .inl (cs 0, 24, .inl S2))], [(b3, .inl (cs 0, 48, .inl S3_96))], [(b4, .inl (cs 0, 48, .inl S4_87))], (w_X10 ad (0) cs en S5_44h)]) H96 := by rw [eS3_96]; exact hP'
                replace hD : va_D A (fl [[(b1, .inl (cs 0, 8, .inl S1_44h))], [(b2, .inl (cs 0, 24, .inl S2))], [(b3, .inl (cs 0, 48, .inl S3_96))], [(b4, .inl (cs 0, 48, .inl S4_87))], (w_X10 ad (0) cs en S5_44h)]) := by rw [eS3_96]; exact hD'
                clear hP' hD' hS'
                refine lv_iconst (v := 0) hx hb dL_pauses_97 ic_0 ?_
                refine lv_istore (lv' := [(10, .int (0 : Int32)), (0, .ref (ad 0)), (1, .ref b1), (2, .ref b2), (3, .ref b3), (4, .ref b4), (6, .int v6_44), (7, .int v7_44), (8, .int v8_44), (9, .int v9_44)]) hx hb dL_pauses_98 hl (Nat.le_of_ble_eq_true rfl) rfl (fun ls hl => ?_)
                exact hB100 fuel S1_44h S3_96 S4_87 S5_44h v6_44 v7_44 v8_44 v9_44 (0 : Int32) H96 _ ls hR hP hD hS (lv_sub hl [1, 2, 3, 4, 5, 6, 7, 8, 9, 0] rfl)
              · replace hR := it_f hR c74
                refine lv_goto (tgt := 153) hx hb dL_pauses_77 (by decide) ?_
                exact hB153 S1_44h S3_44h S4_44h S5_44h v6_44 v7_44 v8_44 v9_44 H _ ls hR hP hD hS (lv_sub hl [0, 1, 2, 3, 4, 5, 6, 7, 8] rfl)
      intro S1_27h S3_27h S4_27h S5_27h v6_27 v7_27 v8_27 H locs ls hR hP hD hS hl
      rw [fL_pauses_27] at hR
      refine lv_iload hx hb dL_pauses_27 (lv_at hl 7 rfl) ?_
      refine lv_iload hx hb dL_pauses_29 (lv_at hl 5 rfl) ?_
      refine lv_icmp_ge (tgt := 165) hx hb dL_pauses_31 (by decide) (fun c31 => ?_) (fun c31 => ?_)
      · replace hR := it_t hR c31
        refine lv_aload_n hx hb dL_pauses_165 rfl (lv_at hl 0 rfl) ?_
        refine lv_iload hx hb dL_pauses_166 (lv_at hl 5 rfl) ?_
        replace hR := bd_e hR
        obtain ⟨q168, gq168, hR⟩ := hR
        refine cm_Vi (As := [.int v6_27]) (rest := []) (L := [[(b1, .inl (cs 0, 8, .inl S1_27h))], [(b2, .inl (cs 0, 24, .inl S2))], [(b3, .inl (cs 0, 48, .inl S3_27h))], [(b4, .inl (cs 0, 48, .inl S4_27h))], (w_X10 ad (0) cs en S5_27h)]) (L' := [[(b1, .inl (cs 0, 8, .inl S1_27h))], [(b2, .inl (cs 0, 24, .inl S2))], [(b3, .inl (cs 0, 48, .inl S3_27h))], [(b4, .inl (cs 0, 48, .inl S4_27h))], (w_X10 ad (0) cs en q168.2)]) (Wc := [(w_X10 ad (0) cs en S5_27h)]) (Wc' := [(w_X10 ad (0) cs en q168.2)]) (is := [4]) (js := [0, 1, 2, 3]) ⟨hx, hb, hml, hown, hts⟩ (k_X10_pause l dC dI cs ad en H.size S5_27h v6_27 q168.1 q168.2 gq168) (cwV 1 hts gL_pauses_X10_pause rfl rfl rfl cd_X10_pause ⟨Nat.le_of_ble_eq_true rfl, Nat.le_of_ble_eq_true rfl⟩) hK hP hD hS hA (jx_4 (w_X10_fst ad 0 cs en _ _)) (jn_nd (is := [4]) hD rfl rfl) 4 8 rfl rfl rfl rfl rfl hl.1 (Nat.le_of_ble_eq_true rfl) dL_pauses_168 ⟨Nat.le_of_ble_eq_true rfl, Nat.le_of_ble_eq_true rfl⟩ (fun H168 locs168 hP' hD' hS' => ?_)
        replace hS := hS'
        replace hP : va_P (dC, dI) vwCl (fl [[(b1, .inl (cs 0, 8, .inl S1_27h))], [(b2, .inl (cs 0, 24, .inl S2))], [(b3, .inl (cs 0, 48, .inl S3_27h))], [(b4, .inl (cs 0, 48, .inl S4_27h))], (w_X10 ad (0) cs en q168.2)]) H168 := hP'
        replace hD : va_D A (fl [[(b1, .inl (cs 0, 8, .inl S1_27h))], [(b2, .inl (cs 0, 24, .inl S2))], [(b3, .inl (cs 0, 48, .inl S3_27h))], [(b4, .inl (cs 0, 48, .inl S4_27h))], (w_X10 ad (0) cs en q168.2)]) := hD'
        clear hP' hD' hS'
        refine lv_iload hx hb dL_pauses_171 (lv_at hl 6 rfl) ?_
        refine lv_icmp_ne (tgt := 180) hx hb dL_pauses_173 (by decide) (fun c173 => ?_) (fun c173 => ?_)
        · replace hR := it_f hR c173
          refine lv_iconst (v := 0) hx hb dL_pauses_180 ic_0 ?_
          replace hR := Option.some.inj hR
          obtain ⟨e9, hR⟩ := Prod.mk.inj hR
          obtain ⟨eu1, hR⟩ := Prod.mk.inj hR
          obtain ⟨eu3, hR⟩ := Prod.mk.inj hR
          obtain ⟨eu4, hR⟩ := Prod.mk.inj hR
          have eu5 := hR
          replace hP : va_P (dC, dI) vwCl (fl [[(b1, .inl (cs 0, 8, .inl u1))], [(b2, .inl (cs 0, 24, .inl S2))], [(b3, .inl (cs 0, 48, .inl u3))], [(b4, .inl (cs 0, 48, .inl u4))], (w_X10 ad (0) cs en u5)]) H168 := by rw [← eu1, ← eu3, ← eu4, ← eu5]; exact hP
          replace hD : va_D A (fl [[(b1, .inl (cs 0, 8, .inl u1))], [(b2, .inl (cs 0, 24, .inl S2))], [(b3, .inl (cs 0, 48, .inl u3))], [(b4, .inl (cs 0, 48, .inl u4))], (w_X10 ad (0) cs en u5)]) := by rw [← eu1, ← eu3, ← eu4, ← eu5]; exact hD
          exact W.zret (ty := .boolean) hx hb hr (by decide) (fun t ht hW => ⟨⟨_, (), rfl, e9, by rw [ht]; exact hP, va_K.moved hW.alike hK, hD⟩, hS.F ht⟩) hS.2.2 dL_pauses_181
        · replace hR := it_t hR c173
          refine lv_iconst (v := 1) hx hb dL_pauses_176 ic_1 ?_
          refine lv_goto (tgt := 181) hx hb dL_pauses_177 (by decide) ?_
          replace hR := Option.some.inj hR
          obtain ⟨e9, hR⟩ := Prod.mk.inj hR
          obtain ⟨eu1, hR⟩ := Prod.mk.inj hR
          obtain ⟨eu3, hR⟩ := Prod.mk.inj hR
          obtain ⟨eu4, hR⟩ := Prod.mk.inj hR
          have eu5 := hR
          replace hP : va_P (dC, dI) vwCl (fl [[(b1, .inl (cs 0, 8, .inl u1))], [(b2, .inl (cs 0, 24, .inl S2))], [(b3, .inl (cs 0, 48, .inl u3))], [(b4, .inl (cs 0, 48, .inl u4))], (w_X10 ad (0) cs en u5)]) H168 := by rw [← eu1, ← eu3, ← eu4, ← eu5]; exact hP
          replace hD : va_D A (fl [[(b1, .inl (cs 0, 8, .inl u1))], [(b2, .inl (cs 0, 24, .inl S2))], [(b3, .inl (cs 0, 48, .inl u3))], [(b4, .inl (cs 0, 48, .inl u4))], (w_X10 ad (0) cs en u5)]) := by rw [← eu1, ← eu3, ← eu4, ← eu5]; exact hD
          exact W.zret (ty := .boolean) hx hb hr (by decide) (fun t ht hW => ⟨⟨_, (), rfl, e9, by rw [ht]; exact hP, va_K.moved hW.alike hK, hD⟩, hS.F ht⟩) hS.2.2 dL_pauses_181
      · replace hR := it_f hR c31
        refine lv_aload_n hx hb dL_pauses_34 rfl (lv_at hl 1 rfl) ?_
        refine lv_iconst (v := 4) hx hb dL_pauses_35 ic_4 ?_
        refine lv_dup2_11 hx hb dL_pauses_36 rfl rfl ?_
        refine va_iald hx hb hK hP 0 0 rfl rfl vi_4_8 dL_pauses_37 ?_
        refine lv_iconst (v := 1) hx hb dL_pauses_38 ic_1 ?_
        refine lv_iadd hx hb dL_pauses_39 ?_
        refine va_iast hx hb hK hP hD hS 0 0 rfl rfl vi_4_8 dL_pauses_40 (fun H40 locs40 hP' hD' hS' => ?_)
        replace hS := hS'
        have hP' : va_P (dC, dI) vwCl (fl [[(b1, .inl (cs 0, 8, .inl (sU S1_27h (4 : Int32).toNatClampNeg ((S1_27h  (4 : Int32).toNatClampNeg) + 1))))], [(b2, .inl (cs 0, 24, .inl S2))], [(b3, .inl (cs 0, 48, .inl S3_27h))], [(b4, .inl (cs 0, 48, .inl S4_27h))], (w_X10 ad (0) cs en S5_27h)]) H40 := hP'
        have hD' : va_D A (fl [[(b1, .inl (cs 0, 8, .inl (sU S1_27h (4 : Int32).toNatClampNeg ((S1_27h  (4 : Int32).toNatClampNeg) + 1))))], [(b2, .inl (cs 0, 24, .inl S2))], [(b3, .inl (cs 0, 48, .inl S3_27h))], [(b4, .inl (cs 0, 48, .inl S4_27h))], (w_X10 ad (0) cs en S5_27h)]) := hD'
        replace hR := bn_e hR
        obtain ⟨S1_40, eS1_40, hR⟩ := hR
        replace hP : va_P (dC, dI) vwCl (fl [[(b1, .inl (cs 0, 8, .inl S1_40))], [(b2, .inl (cs 0, 24, .inl S2))], [(b3, .inl (cs 0, 48, .inl S3_27h))], [(b4, .inl (cs 0, 48, .inl S4_27h))], (w_X10 ad (0) cs en S5_27h)]) H40 := by rw [eS1_40]; exact hP'
        replace hD : va_D A (fl [[(b1, .inl (cs 0, 8, .inl S1_40))], [(b2, .inl (cs 0, 24, .inl S2))], [(b3, .inl (cs 0, 48, .inl S3_27h))], [(b4, .inl (cs 0, 48, .inl S4_27h))], (w_X10 ad (0) cs en S5_27h)]) := by rw [eS1_40]; exact hD'
        clear hP' hD' hS'
        refine lv_iconst (v := 0) hx hb dL_pauses_41 ic_0 ?_
        refine lv_istore (lv' := [(9, .int (0 : Int32)), (0, .ref (ad 0)), (1, .ref b1), (2, .ref b2), (3, .ref b3), (4, .ref b4), (6, .int v6_27), (7, .int v7_27), (8, .int v8_27)]) hx hb dL_pauses_42 hl (Nat.le_of_ble_eq_true rfl) rfl (fun ls hl => ?_)
        exact hB44 fuel S1_40 S3_27h S4_27h S5_27h v6_27 v7_27 v8_27 (0 : Int32) H40 _ ls hR hP hD hS (lv_sub hl [1, 2, 3, 4, 5, 6, 7, 8, 0] rfl)
  have hB17 : ∀ (S1_17h : T1) (S3_17h : T1) (S4_17h : T1) (S5_17h : T5) (t0_17 : Int32) (t1_17 : Int32) (t2_17 : Int32) (H : Heap) (locs : List Loc) (ls : Array Slot), fL_pauses_17 S2 p5 S1_17h S3_17h S4_17h S5_17h t0_17 t1_17 t2_17 = some (r, u1, u3, u4, u5) → va_P (dC, dI) vwCl (fl [[(b1, .inl (cs 0, 8, .inl S1_17h))], [(b2, .inl (cs 0, 24, .inl S2))], [(b3, .inl (cs 0, 48, .inl S3_17h))], [(b4, .inl (cs 0, 48, .inl S4_17h))], (w_X10 ad (0) cs en S5_17h)]) H → va_D A (fl [[(b1, .inl (cs 0, 8, .inl S1_17h))], [(b2, .inl (cs 0, 24, .inl S2))], [(b3, .inl (cs 0, 48, .inl S3_17h))], [(b4, .inl (cs 0, 48, .inl S4_17h))], (w_X10 ad (0) cs en S5_17h)]) → va_S A s.heap H locs → lv_has ls 11 [(0, .ref (ad 0)), (1, .ref b1), (2, .ref b2), (3, .ref b3), (4, .ref b4)] → W p l e (headSpec wsL_pauses ({ frames := 6, cells := 0, slots := 0, locals := 136 } : Room)).room s m ([.ref (ad 0), .ref b1, .ref b2, .ref b3, .ref b4, .int p5] : List Value).toArray below meth c H locs 0 0 (MQ below (QI dC dI (tyL cs) A (fl [[(b1, .inl (cs 0, 8, .inl u1))], [(b2, .inl (cs 0, 24, .inl S2))], [(b3, .inl (cs 0, 48, .inl u3))], [(b4, .inl (cs 0, 48, .inl u4))], (w_X10 ad (0) cs en u5)]) r) ([.ref (ad 0), .ref b1, .ref b2, .ref b3, .ref b4, .int p5] : List Value).toArray s 0 0 A) (F0 m 17 ls [.int t2_17, .int t1_17, .int t0_17]) := by
    intro S1_17h S3_17h S4_17h S5_17h t0_17 t1_17 t2_17 H locs ls hR hP hD hS hl
    replace hR := nz_e hR
    obtain ⟨z17, hR⟩ := hR
    refine lv_irem hx hb dL_pauses_17 z17 ?_
    refine lv_iadd hx hb dL_pauses_18 ?_
    refine lv_istore (lv' := [(6, .int (t0_17 + (t1_17 - t1_17 / t2_17 * t2_17))), (0, .ref (ad 0)), (1, .ref b1), (2, .ref b2), (3, .ref b3), (4, .ref b4)]) hx hb dL_pauses_19 hl (Nat.le_of_ble_eq_true rfl) rfl (fun ls hl => ?_)
    refine lv_iconst (v := 0) hx hb dL_pauses_21 ic_0 ?_
    refine lv_istore (lv' := [(7, .int (0 : Int32)), (6, .int (t0_17 + (t1_17 - t1_17 / t2_17 * t2_17))), (0, .ref (ad 0)), (1, .ref b1), (2, .ref b2), (3, .ref b3), (4, .ref b4)]) hx hb dL_pauses_22 hl (Nat.le_of_ble_eq_true rfl) rfl (fun ls hl => ?_)
    refine lv_iconst (v := 0) hx hb dL_pauses_24 ic_0 ?_
    refine lv_istore (lv' := [(8, .int (0 : Int32)), (7, .int (0 : Int32)), (6, .int (t0_17 + (t1_17 - t1_17 / t2_17 * t2_17))), (0, .ref (ad 0)), (1, .ref b1), (2, .ref b2), (3, .ref b3), (4, .ref b4)]) hx hb dL_pauses_25 hl (Nat.le_of_ble_eq_true rfl) rfl (fun ls hl => ?_)
    exact hB27 fuel S1_17h S3_17h S4_17h S5_17h (t0_17 + (t1_17 - t1_17 / t2_17 * t2_17)) (0 : Int32) (0 : Int32) H _ ls hR hP hD hS (lv_sub hl [3, 4, 5, 6, 7, 2, 1, 0] rfl)
  refine lv_iconst (v := 1) hx hb dL_pauses_0 ic_1 ?_
  refine lv_iload hx hb dL_pauses_1 (lv_at hl 5 rfl) ?_
  refine lv_iload hx hb dL_pauses_3 (lv_at hl 5 rfl) ?_
  refine lv_iconst (v := 4) hx hb dL_pauses_5 ic_4 ?_
  refine lv_irem hx hb dL_pauses_6 (by decide) ?_
  refine lv_if_ne (tgt := 15) hx hb dL_pauses_7 (by decide) (fun c7 => ?_) (fun c7 => ?_)
  · replace hR := it_f hR c7
    refine lv_bipush (v := 14) hx hb dL_pauses_15 bp_14 ?_
    exact hB17 S1 S3 S4 S5 (1 : Int32) p5 (14 : Int32) s.heap _ ls hR hP hD hS (lv_sub hl [0, 1, 2, 3, 4] rfl)
  · replace hR := it_t hR c7
    refine lv_bipush (v := 120) hx hb dL_pauses_10 bp_120 ?_
    refine lv_goto (tgt := 17) hx hb dL_pauses_12 (by decide) ?_
    exact hB17 S1 S3 S4 S5 (1 : Int32) p5 (120 : Int32) s.heap _ ls hR hP hD hS (lv_sub hl [0, 1, 2, 3, 4] rfl)
set_option maxHeartbeats 8000000 in
set_option maxRecDepth 100000 in
theorem k_L_acts (l : Launch) (dC : Nat → ClassId) (dI : Nat → Nat → Nat) (cs : Nat → ClassId) (ad : Nat → Nat) (en : Nat → Nat) (b1 b2 b3 b4 b5 b6 b7 : Nat) (sz : Nat) (S1 : T1) (S2 : T1) (S3 : T1) (S4 : T1) (S5 : T1) (S6 : T1) (S7 : T1) (S8 : T5) (p8 : Int32) (r : Int32) (u1 : T1) (u2 : T1) (u3 : T1) (u4 : T1) (u5 : T1) (u6 : T1) (u7 : T1) (u8 : T5) (hR : fL_acts S1 S2 S3 S4 S5 S6 S7 S8 p8 = some (r, u1, u2, u3, u4, u5, u6, u7, u8)) : Met l yL_acts wsL_acts ({ frames := 7, cells := 0, slots := 0, locals := 171 } : Room) (va_Pc [.ref (ad 0), .ref b1, .ref b2, .ref b3, .ref b4, .ref b5, .ref b6, .ref b7, .int p8] (pW dC dI (tyL cs) (fl [[(b1, .inl (cs 0, 8, .inl S1))], [(b2, .inl (cs 0, 24, .inl S2))], [(b3, .inl (cs 0, 48, .inl S3))], [(b4, .inl (cs 0, 48, .inl S4))], [(b5, .inl (cs 0, 40, .inl S5))], [(b6, .inl (cs 0, 32, .inl S6))], [(b7, .inl (cs 0, 6, .inl S7))], (w_X10 ad (0) cs en S8)]) sz)) (QI dC dI (tyL cs) (va_A (fl [[(b1, .inl (cs 0, 8, .inl S1))], [(b2, .inl (cs 0, 24, .inl S2))], [(b3, .inl (cs 0, 48, .inl S3))], [(b4, .inl (cs 0, 48, .inl S4))], [(b5, .inl (cs 0, 40, .inl S5))], [(b6, .inl (cs 0, 32, .inl S6))], [(b7, .inl (cs 0, 6, .inl S7))], (w_X10 ad (0) cs en S8)]) sz) (fl [[(b1, .inl (cs 0, 8, .inl u1))], [(b2, .inl (cs 0, 24, .inl u2))], [(b3, .inl (cs 0, 48, .inl u3))], [(b4, .inl (cs 0, 48, .inl u4))], [(b5, .inl (cs 0, 40, .inl u5))], [(b6, .inl (cs 0, 32, .inl u6))], [(b7, .inl (cs 0, 6, .inl u7))], (w_X10 ad (0) cs en u8)]) r) 0 0 (va_A (fl [[(b1, .inl (cs 0, 8, .inl S1))], [(b2, .inl (cs 0, 24, .inl S2))], [(b3, .inl (cs 0, 48, .inl S3))], [(b4, .inl (cs 0, 48, .inl S4))], [(b5, .inl (cs 0, 40, .inl S5))], [(b6, .inl (cs 0, 32, .inl S6))], [(b7, .inl (cs 0, 6, .inl S7))], (w_X10 ad (0) cs en S8)]) sz) := by
  refine mt_ofC (own := RL) (cc := cL_acts) (maxL := 14) (ret := (some .boolean)) (Qc := fun A => QI dC dI (tyL cs) A (fl [[(b1, .inl (cs 0, 8, .inl u1))], [(b2, .inl (cs 0, 24, .inl u2))], [(b3, .inl (cs 0, 48, .inl u3))], [(b4, .inl (cs 0, 48, .inl u4))], [(b5, .inl (cs 0, 40, .inl u5))], [(b6, .inl (cs 0, 32, .inl u6))], [(b7, .inl (cs 0, 6, .inl u7))], (w_X10 ad (0) cs en u8)]) r) rfl (by decide) rfl (Nat.le_of_ble_eq_true rfl) (fun p e s m below meth c A ls hsz hx hb hr hts hown hlocks hml hA hK hP hD hS hl => ?_)
  subst hsz
  have hl : lv_has ls 14 [(0, .ref (ad 0)), (1, .ref b1), (2, .ref b2), (3, .ref b3), (4, .ref b4), (5, .ref b5), (6, .ref b6), (7, .ref b7), (8, .int p8)] := hl
  have hB458 : ∀ (S1_458h : T1) (S2_458h : T1) (S3_458h : T1) (S4_458h : T1) (S5_458h : T1) (S6_458h : T1) (S7_458h : T1) (S8_458h : T5) (v11_458 : Int32) (v12_458 : Int32) (t1_458 : Int32) (t2_458 : Int32) (H : Heap) (locs : List Loc) (ls : Array Slot), fL_acts_458 p8 S1_458h S2_458h S3_458h S4_458h S5_458h S6_458h S7_458h S8_458h v11_458 v12_458 t1_458 t2_458 = some (r, u1, u2, u3, u4, u5, u6, u7, u8) → va_P (dC, dI) vwCl (fl [[(b1, .inl (cs 0, 8, .inl S1_458h))], [(b2, .inl (cs 0, 24, .inl S2_458h))], [(b3, .inl (cs 0, 48, .inl S3_458h))], [(b4, .inl (cs 0, 48, .inl S4_458h))], [(b5, .inl (cs 0, 40, .inl S5_458h))], [(b6, .inl (cs 0, 32, .inl S6_458h))], [(b7, .inl (cs 0, 6, .inl S7_458h))], (w_X10 ad (0) cs en S8_458h)]) H → va_D A (fl [[(b1, .inl (cs 0, 8, .inl S1_458h))], [(b2, .inl (cs 0, 24, .inl S2_458h))], [(b3, .inl (cs 0, 48, .inl S3_458h))], [(b4, .inl (cs 0, 48, .inl S4_458h))], [(b5, .inl (cs 0, 40, .inl S5_458h))], [(b6, .inl (cs 0, 32, .inl S6_458h))], [(b7, .inl (cs 0, 6, .inl S7_458h))], (w_X10 ad (0) cs en S8_458h)]) → va_S A s.heap H locs → lv_has ls 14 [(0, .ref (ad 0)), (1, .ref b1), (11, .int v11_458), (12, .int v12_458)] → W p l e (headSpec wsL_acts ({ frames := 7, cells := 0, slots := 0, locals := 171 } : Room)).room s m ([.ref (ad 0), .ref b1, .ref b2, .ref b3, .ref b4, .ref b5, .ref b6, .ref b7, .int p8] : List Value).toArray below meth c H locs 0 0 (MQ below (QI dC dI (tyL cs) A (fl [[(b1, .inl (cs 0, 8, .inl u1))], [(b2, .inl (cs 0, 24, .inl u2))], [(b3, .inl (cs 0, 48, .inl u3))], [(b4, .inl (cs 0, 48, .inl u4))], [(b5, .inl (cs 0, 40, .inl u5))], [(b6, .inl (cs 0, 32, .inl u6))], [(b7, .inl (cs 0, 6, .inl u7))], (w_X10 ad (0) cs en u8)]) r) ([.ref (ad 0), .ref b1, .ref b2, .ref b3, .ref b4, .ref b5, .ref b6, .ref b7, .int p8] : List Value).toArray s 0 0 A) (F0 m 458 ls [.int t2_458, .int t1_458, .ref b1]) := by
    intro S1_458h S2_458h S3_458h S4_458h S5_458h S6_458h S7_458h S8_458h v11_458 v12_458 t1_458 t2_458 H locs ls hR hP hD hS hl
    replace hR := gi_e hR
    obtain ⟨i458, hR⟩ := hR
    refine va_iast hx hb hK hP hD hS 0 0 rfl rfl i458 dL_acts_458 (fun H458 locs458 hP' hD' hS' => ?_)
    replace hS := hS'
    have hP' : va_P (dC, dI) vwCl (fl [[(b1, .inl (cs 0, 8, .inl (sU S1_458h t1_458.toNatClampNeg t2_458)))], [(b2, .inl (cs 0, 24, .inl S2_458h))], [(b3, .inl (cs 0, 48, .inl S3_458h))], [(b4, .inl (cs 0, 48, .inl S4_458h))], [(b5, .inl (cs 0, 40, .inl S5_458h))], [(b6, .inl (cs 0, 32, .inl S6_458h))], [(b7, .inl (cs 0, 6, .inl S7_458h))], (w_X10 ad (0) cs en S8_458h)]) H458 := hP'
    have hD' : va_D A (fl [[(b1, .inl (cs 0, 8, .inl (sU S1_458h t1_458.toNatClampNeg t2_458)))], [(b2, .inl (cs 0, 24, .inl S2_458h))], [(b3, .inl (cs 0, 48, .inl S3_458h))], [(b4, .inl (cs 0, 48, .inl S4_458h))], [(b5, .inl (cs 0, 40, .inl S5_458h))], [(b6, .inl (cs 0, 32, .inl S6_458h))], [(b7, .inl (cs 0, 6, .inl S7_458h))], (w_X10 ad (0) cs en S8_458h)]) := hD'
    replace hR := bn_e hR
    obtain ⟨S1_458, eS1_458, hR⟩ := hR
    replace hP : va_P (dC, dI) vwCl (fl [[(b1, .inl (cs 0, 8, .inl S1_458))], [(b2, .inl (cs 0, 24, .inl S2_458h))], [(b3, .inl (cs 0, 48, .inl S3_458h))], [(b4, .inl (cs 0, 48, .inl S4_458h))], [(b5, .inl (cs 0, 40, .inl S5_458h))], [(b6, .inl (cs 0, 32, .inl S6_458h))], [(b7, .inl (cs 0, 6, .inl S7_458h))], (w_X10 ad (0) cs en S8_458h)]) H458 := by rw [eS1_458]; exact hP'
    replace hD : va_D A (fl [[(b1, .inl (cs 0, 8, .inl S1_458))], [(b2, .inl (cs 0, 24, .inl S2_458h))], [(b3, .inl (cs 0, 48, .inl S3_458h))], [(b4, .inl (cs 0, 48, .inl S4_458h))], [(b5, .inl (cs 0, 40, .inl S5_458h))], [(b6, .inl (cs 0, 32, .inl S6_458h))], [(b7, .inl (cs 0, 6, .inl S7_458h))], (w_X10 ad (0) cs en S8_458h)]) := by rw [eS1_458]; exact hD'
    clear hP' hD' hS'
    refine lv_aload_n hx hb dL_acts_459 rfl (lv_at hl 0 rfl) ?_
    refine lv_iload hx hb dL_acts_460 (lv_at hl 2 rfl) ?_
    refine lv_aload_n hx hb dL_acts_462 rfl (lv_at hl 1 rfl) ?_
    refine lv_iconst (v := 5) hx hb dL_acts_463 ic_5 ?_
    refine lv_iload hx hb dL_acts_464 (lv_at hl 2 rfl) ?_
    refine lv_iadd hx hb dL_acts_466 ?_
    replace hR := gi_e hR
    obtain ⟨i467, hR⟩ := hR
    refine va_iald hx hb hK hP 0 0 rfl rfl i467 dL_acts_467 ?_
    replace hR := bd_e hR
    obtain ⟨q468, gq468, hR⟩ := hR
    refine cm_Vi (As := [.int v11_458, .int (S1_458  ((5 : Int32) + v11_458).toNatClampNeg)]) (rest := []) (L := [[(b1, .inl (cs 0, 8, .inl S1_458))], [(b2, .inl (cs 0, 24, .inl S2_458h))], [(b3, .inl (cs 0, 48, .inl S3_458h))], [(b4, .inl (cs 0, 48, .inl S4_458h))], [(b5, .inl (cs 0, 40, .inl S5_458h))], [(b6, .inl (cs 0, 32, .inl S6_458h))], [(b7, .inl (cs 0, 6, .inl S7_458h))], (w_X10 ad (0) cs en S8_458h)]) (L' := [[(b1, .inl (cs 0, 8, .inl S1_458))], [(b2, .inl (cs 0, 24, .inl S2_458h))], [(b3, .inl (cs 0, 48, .inl S3_458h))], [(b4, .inl (cs 0, 48, .inl S4_458h))], [(b5, .inl (cs 0, 40, .inl S5_458h))], [(b6, .inl (cs 0, 32, .inl S6_458h))], [(b7, .inl (cs 0, 6, .inl S7_458h))], (w_X10 ad (0) cs en q468.2)]) (Wc := [(w_X10 ad (0) cs en S8_458h)]) (Wc' := [(w_X10 ad (0) cs en q468.2)]) (is := [7]) (js := [0, 1, 2, 3, 4, 5, 6]) ⟨hx, hb, hml, hown, hts⟩ (k_X10_set l dC dI cs ad en H458.size S8_458h v11_458 (S1_458  ((5 : Int32) + v11_458).toNatClampNeg) q468.1 q468.2 gq468) (cwV 2 hts gL_acts_X10_set rfl rfl rfl cd_X10_set ⟨Nat.le_of_ble_eq_true rfl, Nat.le_of_ble_eq_true rfl⟩) hK hP hD hS hA (jx_7 (w_X10_fst ad 0 cs en _ _)) (jn_nd (is := [7]) hD rfl rfl) 7 8 rfl rfl rfl rfl rfl hl.1 (Nat.le_of_ble_eq_true rfl) dL_acts_468 ⟨Nat.le_of_ble_eq_true rfl, Nat.le_of_ble_eq_true rfl⟩ (fun H468 locs468 hP' hD' hS' => ?_)
    replace hS := hS'
    replace hP : va_P (dC, dI) vwCl (fl [[(b1, .inl (cs 0, 8, .inl S1_458))], [(b2, .inl (cs 0, 24, .inl S2_458h))], [(b3, .inl (cs 0, 48, .inl S3_458h))], [(b4, .inl (cs 0, 48, .inl S4_458h))], [(b5, .inl (cs 0, 40, .inl S5_458h))], [(b6, .inl (cs 0, 32, .inl S6_458h))], [(b7, .inl (cs 0, 6, .inl S7_458h))], (w_X10 ad (0) cs en q468.2)]) H468 := hP'
    replace hD : va_D A (fl [[(b1, .inl (cs 0, 8, .inl S1_458))], [(b2, .inl (cs 0, 24, .inl S2_458h))], [(b3, .inl (cs 0, 48, .inl S3_458h))], [(b4, .inl (cs 0, 48, .inl S4_458h))], [(b5, .inl (cs 0, 40, .inl S5_458h))], [(b6, .inl (cs 0, 32, .inl S6_458h))], [(b7, .inl (cs 0, 6, .inl S7_458h))], (w_X10 ad (0) cs en q468.2)]) := hD'
    clear hP' hD' hS'
    refine lv_iload hx hb dL_acts_471 (lv_at hl 3 rfl) ?_
    refine lv_icmp_ne (tgt := 480) hx hb dL_acts_473 (by decide) (fun c473 => ?_) (fun c473 => ?_)
    · replace hR := it_f hR c473
      refine lv_iconst (v := 0) hx hb dL_acts_480 ic_0 ?_
      replace hR := Option.some.inj hR
      obtain ⟨e9, hR⟩ := Prod.mk.inj hR
      obtain ⟨eu1, hR⟩ := Prod.mk.inj hR
      obtain ⟨eu2, hR⟩ := Prod.mk.inj hR
      obtain ⟨eu3, hR⟩ := Prod.mk.inj hR
      obtain ⟨eu4, hR⟩ := Prod.mk.inj hR
      obtain ⟨eu5, hR⟩ := Prod.mk.inj hR
      obtain ⟨eu6, hR⟩ := Prod.mk.inj hR
      obtain ⟨eu7, hR⟩ := Prod.mk.inj hR
      have eu8 := hR
      replace hP : va_P (dC, dI) vwCl (fl [[(b1, .inl (cs 0, 8, .inl u1))], [(b2, .inl (cs 0, 24, .inl u2))], [(b3, .inl (cs 0, 48, .inl u3))], [(b4, .inl (cs 0, 48, .inl u4))], [(b5, .inl (cs 0, 40, .inl u5))], [(b6, .inl (cs 0, 32, .inl u6))], [(b7, .inl (cs 0, 6, .inl u7))], (w_X10 ad (0) cs en u8)]) H468 := by rw [← eu1, ← eu2, ← eu3, ← eu4, ← eu5, ← eu6, ← eu7, ← eu8]; exact hP
      replace hD : va_D A (fl [[(b1, .inl (cs 0, 8, .inl u1))], [(b2, .inl (cs 0, 24, .inl u2))], [(b3, .inl (cs 0, 48, .inl u3))], [(b4, .inl (cs 0, 48, .inl u4))], [(b5, .inl (cs 0, 40, .inl u5))], [(b6, .inl (cs 0, 32, .inl u6))], [(b7, .inl (cs 0, 6, .inl u7))], (w_X10 ad (0) cs en u8)]) := by rw [← eu1, ← eu2, ← eu3, ← eu4, ← eu5, ← eu6, ← eu7, ← eu8]; exact hD
      exact W.zret (ty := .boolean) hx hb hr (by decide) (fun t ht hW => ⟨⟨_, (), rfl, e9, by rw [ht]; exact hP, va_K.moved hW.alike hK, hD⟩, hS.F ht⟩) hS.2.2 dL_acts_481
    · replace hR := it_t hR c473
      refine lv_iconst (v := 1) hx hb dL_acts_476 ic_1 ?_
      refine lv_goto (tgt := 481) hx hb dL_acts_477 (by decide) ?_
      replace hR := Option.some.inj hR
      obtain ⟨e9, hR⟩ := Prod.mk.inj hR
      obtain ⟨eu1, hR⟩ := Prod.mk.inj hR
      obtain ⟨eu2, hR⟩ := Prod.mk.inj hR
      obtain ⟨eu3, hR⟩ := Prod.mk.inj hR
      obtain ⟨eu4, hR⟩ := Prod.mk.inj hR
      obtain ⟨eu5, hR⟩ := Prod.mk.inj hR
      obtain ⟨eu6, hR⟩ := Prod.mk.inj hR
      obtain ⟨eu7, hR⟩ := Prod.mk.inj hR
      have eu8 := hR
      replace hP : va_P (dC, dI) vwCl (fl [[(b1, .inl (cs 0, 8, .inl u1))], [(b2, .inl (cs 0, 24, .inl u2))], [(b3, .inl (cs 0, 48, .inl u3))], [(b4, .inl (cs 0, 48, .inl u4))], [(b5, .inl (cs 0, 40, .inl u5))], [(b6, .inl (cs 0, 32, .inl u6))], [(b7, .inl (cs 0, 6, .inl u7))], (w_X10 ad (0) cs en u8)]) H468 := by rw [← eu1, ← eu2, ← eu3, ← eu4, ← eu5, ← eu6, ← eu7, ← eu8]; exact hP
      replace hD : va_D A (fl [[(b1, .inl (cs 0, 8, .inl u1))], [(b2, .inl (cs 0, 24, .inl u2))], [(b3, .inl (cs 0, 48, .inl u3))], [(b4, .inl (cs 0, 48, .inl u4))], [(b5, .inl (cs 0, 40, .inl u5))], [(b6, .inl (cs 0, 32, .inl u6))], [(b7, .inl (cs 0, 6, .inl u7))], (w_X10 ad (0) cs en u8)]) := by rw [← eu1, ← eu2, ← eu3, ← eu4, ← eu5, ← eu6, ← eu7, ← eu8]; exact hD
      exact W.zret (ty := .boolean) hx hb hr (by decide) (fun t ht hW => ⟨⟨_, (), rfl, e9, by rw [ht]; exact hP, va_K.moved hW.alike hK, hD⟩, hS.F ht⟩) hS.2.2 dL_acts_481
  have hB445 : ∀ (S1_445h : T1) (S2_445h : T1) (S3_445h : T1) (S4_445h : T1) (S5_445h : T1) (S6_445h : T1) (S7_445h : T1) (S8_445h : T5) (v11_445 : Int32) (v12_445 : Int32) (t1_445 : Int32) (t2_445 : Int32) (t3_445 : Int32) (t4_445 : Int32) (H : Heap) (locs : List Loc) (ls : Array Slot), fL_acts_445 p8 S1_445h S2_445h S3_445h S4_445h S5_445h S6_445h S7_445h S8_445h v11_445 v12_445 t1_445 t2_445 t3_445 t4_445 = some (r, u1, u2, u3, u4, u5, u6, u7, u8) → va_P (dC, dI) vwCl (fl [[(b1, .inl (cs 0, 8, .inl S1_445h))], [(b2, .inl (cs 0, 24, .inl S2_445h))], [(b3, .inl (cs 0, 48, .inl S3_445h))], [(b4, .inl (cs 0, 48, .inl S4_445h))], [(b5, .inl (cs 0, 40, .inl S5_445h))], [(b6, .inl (cs 0, 32, .inl S6_445h))], [(b7, .inl (cs 0, 6, .inl S7_445h))], (w_X10 ad (0) cs en S8_445h)]) H → va_D A (fl [[(b1, .inl (cs 0, 8, .inl S1_445h))], [(b2, .inl (cs 0, 24, .inl S2_445h))], [(b3, .inl (cs 0, 48, .inl S3_445h))], [(b4, .inl (cs 0, 48, .inl S4_445h))], [(b5, .inl (cs 0, 40, .inl S5_445h))], [(b6, .inl (cs 0, 32, .inl S6_445h))], [(b7, .inl (cs 0, 6, .inl S7_445h))], (w_X10 ad (0) cs en S8_445h)]) → va_S A s.heap H locs → lv_has ls 14 [(0, .ref (ad 0)), (1, .ref b1), (11, .int v11_445), (12, .int v12_445)] → W p l e (headSpec wsL_acts ({ frames := 7, cells := 0, slots := 0, locals := 171 } : Room)).room s m ([.ref (ad 0), .ref b1, .ref b2, .ref b3, .ref b4, .ref b5, .ref b6, .ref b7, .int p8] : List Value).toArray below meth c H locs 0 0 (MQ below (QI dC dI (tyL cs) A (fl [[(b1, .inl (cs 0, 8, .inl u1))], [(b2, .inl (cs 0, 24, .inl u2))], [(b3, .inl (cs 0, 48, .inl u3))], [(b4, .inl (cs 0, 48, .inl u4))], [(b5, .inl (cs 0, 40, .inl u5))], [(b6, .inl (cs 0, 32, .inl u6))], [(b7, .inl (cs 0, 6, .inl u7))], (w_X10 ad (0) cs en u8)]) r) ([.ref (ad 0), .ref b1, .ref b2, .ref b3, .ref b4, .ref b5, .ref b6, .ref b7, .int p8] : List Value).toArray s 0 0 A) (F0 m 445 ls [.int t4_445, .int t3_445, .int t2_445, .int t1_445, .ref b1]) := by
    intro S1_445h S2_445h S3_445h S4_445h S5_445h S6_445h S7_445h S8_445h v11_445 v12_445 t1_445 t2_445 t3_445 t4_445 H locs ls hR hP hD hS hl
    replace hR := nz_e hR
    obtain ⟨z445, hR⟩ := hR
    refine lv_irem hx hb dL_acts_445 z445 ?_
    refine lv_iadd hx hb dL_acts_446 ?_
    refine lv_goto (tgt := 458) hx hb dL_acts_447 (by decide) ?_
    exact hB458 S1_445h S2_445h S3_445h S4_445h S5_445h S6_445h S7_445h S8_445h v11_445 v12_445 t1_445 (t2_445 + (t3_445 - t3_445 / t4_445 * t4_445)) H _ ls hR hP hD hS (lv_sub hl [0, 1, 2, 3] rfl)
  have hB342 : ∀ (n342 : Nat), ∀ (S1_342h : T1) (S2_342h : T1) (S3_342h : T1) (S4_342h : T1) (S5_342h : T1) (S6_342h : T1) (S7_342h : T1) (S8_342h : T5) (v11_342 : Int32) (v12_342 : Int32) (v13_342 : Int32) (H : Heap) (locs : List Loc) (ls : Array Slot), fL_acts_342 p8 n342 S1_342h S2_342h S3_342h S4_342h S5_342h S6_342h S7_342h S8_342h v11_342 v12_342 v13_342 = some (r, u1, u2, u3, u4, u5, u6, u7, u8) → va_P (dC, dI) vwCl (fl [[(b1, .inl (cs 0, 8, .inl S1_342h))], [(b2, .inl (cs 0, 24, .inl S2_342h))], [(b3, .inl (cs 0, 48, .inl S3_342h))], [(b4, .inl (cs 0, 48, .inl S4_342h))], [(b5, .inl (cs 0, 40, .inl S5_342h))], [(b6, .inl (cs 0, 32, .inl S6_342h))], [(b7, .inl (cs 0, 6, .inl S7_342h))], (w_X10 ad (0) cs en S8_342h)]) H → va_D A (fl [[(b1, .inl (cs 0, 8, .inl S1_342h))], [(b2, .inl (cs 0, 24, .inl S2_342h))], [(b3, .inl (cs 0, 48, .inl S3_342h))], [(b4, .inl (cs 0, 48, .inl S4_342h))], [(b5, .inl (cs 0, 40, .inl S5_342h))], [(b6, .inl (cs 0, 32, .inl S6_342h))], [(b7, .inl (cs 0, 6, .inl S7_342h))], (w_X10 ad (0) cs en S8_342h)]) → va_S A s.heap H locs → lv_has ls 14 [(0, .ref (ad 0)), (1, .ref b1), (4, .ref b4), (11, .int v11_342), (12, .int v12_342), (13, .int v13_342)] → W p l e (headSpec wsL_acts ({ frames := 7, cells := 0, slots := 0, locals := 171 } : Room)).room s m ([.ref (ad 0), .ref b1, .ref b2, .ref b3, .ref b4, .ref b5, .ref b6, .ref b7, .int p8] : List Value).toArray below meth c H locs 0 0 (MQ below (QI dC dI (tyL cs) A (fl [[(b1, .inl (cs 0, 8, .inl u1))], [(b2, .inl (cs 0, 24, .inl u2))], [(b3, .inl (cs 0, 48, .inl u3))], [(b4, .inl (cs 0, 48, .inl u4))], [(b5, .inl (cs 0, 40, .inl u5))], [(b6, .inl (cs 0, 32, .inl u6))], [(b7, .inl (cs 0, 6, .inl u7))], (w_X10 ad (0) cs en u8)]) r) ([.ref (ad 0), .ref b1, .ref b2, .ref b3, .ref b4, .ref b5, .ref b6, .ref b7, .int p8] : List Value).toArray s 0 0 A) (F0 m 342 ls []) := by
    intro n342
    induction n342 with
    | zero =>
      intro S1_342h S2_342h S3_342h S4_342h S5_342h S6_342h S7_342h S8_342h v11_342 v12_342 v13_342 H locs ls hR hP hD hS hl
      exact nn_e hR
    | succ n342 hI342 =>
      intro S1_342h S2_342h S3_342h S4_342h S5_342h S6_342h S7_342h S8_342h v11_342 v12_342 v13_342 H locs ls hR hP hD hS hl
      rw [fL_acts_342] at hR
      refine lv_iload hx hb dL_acts_342 (lv_at hl 5 rfl) ?_
      refine lv_aload_n hx hb dL_acts_344 rfl (lv_at hl 1 rfl) ?_
      refine lv_iconst (v := 1) hx hb dL_acts_345 ic_1 ?_
      refine va_iald hx hb hK hP 0 0 rfl rfl vi_1_8 dL_acts_346 ?_
      refine lv_icmp_ge (tgt := 368) hx hb dL_acts_347 (by decide) (fun c347 => ?_) (fun c347 => ?_)
      · replace hR := it_t hR c347
        refine lv_aload_n hx hb dL_acts_368 rfl (lv_at hl 0 rfl) ?_
        refine lv_iload hx hb dL_acts_369 (lv_at hl 3 rfl) ?_
        replace hR := bd_e hR
        obtain ⟨q371, gq371, hR⟩ := hR
        refine cm_Vi (As := [.int v11_342]) (rest := []) (L := [[(b1, .inl (cs 0, 8, .inl S1_342h))], [(b2, .inl (cs 0, 24, .inl S2_342h))], [(b3, .inl (cs 0, 48, .inl S3_342h))], [(b4, .inl (cs 0, 48, .inl S4_342h))], [(b5, .inl (cs 0, 40, .inl S5_342h))], [(b6, .inl (cs 0, 32, .inl S6_342h))], [(b7, .inl (cs 0, 6, .inl S7_342h))], (w_X10 ad (0) cs en S8_342h)]) (L' := [[(b1, .inl (cs 0, 8, .inl S1_342h))], [(b2, .inl (cs 0, 24, .inl S2_342h))], [(b3, .inl (cs 0, 48, .inl S3_342h))], [(b4, .inl (cs 0, 48, .inl S4_342h))], [(b5, .inl (cs 0, 40, .inl S5_342h))], [(b6, .inl (cs 0, 32, .inl S6_342h))], [(b7, .inl (cs 0, 6, .inl S7_342h))], (w_X10 ad (0) cs en q371.2)]) (Wc := [(w_X10 ad (0) cs en S8_342h)]) (Wc' := [(w_X10 ad (0) cs en q371.2)]) (is := [7]) (js := [0, 1, 2, 3, 4, 5, 6]) ⟨hx, hb, hml, hown, hts⟩ (k_X10_report l dC dI cs ad en H.size S8_342h v11_342 q371.1 q371.2 gq371) (cwV 1 hts gL_acts_X10_report rfl rfl rfl cd_X10_report ⟨Nat.le_of_ble_eq_true rfl, Nat.le_of_ble_eq_true rfl⟩) hK hP hD hS hA (jx_7 (w_X10_fst ad 0 cs en _ _)) (jn_nd (is := [7]) hD rfl rfl) 7 8 rfl rfl rfl rfl rfl hl.1 (Nat.le_of_ble_eq_true rfl) dL_acts_371 ⟨Nat.le_of_ble_eq_true rfl, Nat.le_of_ble_eq_true rfl⟩ (fun H371 locs371 hP' hD' hS' => ?_)
        replace hS := hS'
        replace hP : va_P (dC, dI) vwCl (fl [[(b1, .inl (cs 0, 8, .inl S1_342h))], [(b2, .inl (cs 0, 24, .inl S2_342h))], [(b3, .inl (cs 0, 48, .inl S3_342h))], [(b4, .inl (cs 0, 48, .inl S4_342h))], [(b5, .inl (cs 0, 40, .inl S5_342h))], [(b6, .inl (cs 0, 32, .inl S6_342h))], [(b7, .inl (cs 0, 6, .inl S7_342h))], (w_X10 ad (0) cs en q371.2)]) H371 := hP'
        replace hD : va_D A (fl [[(b1, .inl (cs 0, 8, .inl S1_342h))], [(b2, .inl (cs 0, 24, .inl S2_342h))], [(b3, .inl (cs 0, 48, .inl S3_342h))], [(b4, .inl (cs 0, 48, .inl S4_342h))], [(b5, .inl (cs 0, 40, .inl S5_342h))], [(b6, .inl (cs 0, 32, .inl S6_342h))], [(b7, .inl (cs 0, 6, .inl S7_342h))], (w_X10 ad (0) cs en q371.2)]) := hD'
        clear hP' hD' hS'
        refine lv_iload hx hb dL_acts_374 (lv_at hl 4 rfl) ?_
        refine lv_icmp_ne (tgt := 383) hx hb dL_acts_376 (by decide) (fun c376 => ?_) (fun c376 => ?_)
        · replace hR := it_f hR c376
          refine lv_iconst (v := 0) hx hb dL_acts_383 ic_0 ?_
          replace hR := Option.some.inj hR
          obtain ⟨e9, hR⟩ := Prod.mk.inj hR
          obtain ⟨eu1, hR⟩ := Prod.mk.inj hR
          obtain ⟨eu2, hR⟩ := Prod.mk.inj hR
          obtain ⟨eu3, hR⟩ := Prod.mk.inj hR
          obtain ⟨eu4, hR⟩ := Prod.mk.inj hR
          obtain ⟨eu5, hR⟩ := Prod.mk.inj hR
          obtain ⟨eu6, hR⟩ := Prod.mk.inj hR
          obtain ⟨eu7, hR⟩ := Prod.mk.inj hR
          have eu8 := hR
          replace hP : va_P (dC, dI) vwCl (fl [[(b1, .inl (cs 0, 8, .inl u1))], [(b2, .inl (cs 0, 24, .inl u2))], [(b3, .inl (cs 0, 48, .inl u3))], [(b4, .inl (cs 0, 48, .inl u4))], [(b5, .inl (cs 0, 40, .inl u5))], [(b6, .inl (cs 0, 32, .inl u6))], [(b7, .inl (cs 0, 6, .inl u7))], (w_X10 ad (0) cs en u8)]) H371 := by rw [← eu1, ← eu2, ← eu3, ← eu4, ← eu5, ← eu6, ← eu7, ← eu8]; exact hP
          replace hD : va_D A (fl [[(b1, .inl (cs 0, 8, .inl u1))], [(b2, .inl (cs 0, 24, .inl u2))], [(b3, .inl (cs 0, 48, .inl u3))], [(b4, .inl (cs 0, 48, .inl u4))], [(b5, .inl (cs 0, 40, .inl u5))], [(b6, .inl (cs 0, 32, .inl u6))], [(b7, .inl (cs 0, 6, .inl u7))], (w_X10 ad (0) cs en u8)]) := by rw [← eu1, ← eu2, ← eu3, ← eu4, ← eu5, ← eu6, ← eu7, ← eu8]; exact hD
          exact W.zret (ty := .boolean) hx hb hr (by decide) (fun t ht hW => ⟨⟨_, (), rfl, e9, by rw [ht]; exact hP, va_K.moved hW.alike hK, hD⟩, hS.F ht⟩) hS.2.2 dL_acts_384
        · replace hR := it_t hR c376
          refine lv_iconst (v := 1) hx hb dL_acts_379 ic_1 ?_
          refine lv_goto (tgt := 384) hx hb dL_acts_380 (by decide) ?_
          replace hR := Option.some.inj hR
          obtain ⟨e9, hR⟩ := Prod.mk.inj hR
          obtain ⟨eu1, hR⟩ := Prod.mk.inj hR
          obtain ⟨eu2, hR⟩ := Prod.mk.inj hR
          obtain ⟨eu3, hR⟩ := Prod.mk.inj hR
          obtain ⟨eu4, hR⟩ := Prod.mk.inj hR
          obtain ⟨eu5, hR⟩ := Prod.mk.inj hR
          obtain ⟨eu6, hR⟩ := Prod.mk.inj hR
          obtain ⟨eu7, hR⟩ := Prod.mk.inj hR
          have eu8 := hR
          replace hP : va_P (dC, dI) vwCl (fl [[(b1, .inl (cs 0, 8, .inl u1))], [(b2, .inl (cs 0, 24, .inl u2))], [(b3, .inl (cs 0, 48, .inl u3))], [(b4, .inl (cs 0, 48, .inl u4))], [(b5, .inl (cs 0, 40, .inl u5))], [(b6, .inl (cs 0, 32, .inl u6))], [(b7, .inl (cs 0, 6, .inl u7))], (w_X10 ad (0) cs en u8)]) H371 := by rw [← eu1, ← eu2, ← eu3, ← eu4, ← eu5, ← eu6, ← eu7, ← eu8]; exact hP
          replace hD : va_D A (fl [[(b1, .inl (cs 0, 8, .inl u1))], [(b2, .inl (cs 0, 24, .inl u2))], [(b3, .inl (cs 0, 48, .inl u3))], [(b4, .inl (cs 0, 48, .inl u4))], [(b5, .inl (cs 0, 40, .inl u5))], [(b6, .inl (cs 0, 32, .inl u6))], [(b7, .inl (cs 0, 6, .inl u7))], (w_X10 ad (0) cs en u8)]) := by rw [← eu1, ← eu2, ← eu3, ← eu4, ← eu5, ← eu6, ← eu7, ← eu8]; exact hD
          exact W.zret (ty := .boolean) hx hb hr (by decide) (fun t ht hW => ⟨⟨_, (), rfl, e9, by rw [ht]; exact hP, va_K.moved hW.alike hK, hD⟩, hS.F ht⟩) hS.2.2 dL_acts_384
      · replace hR := it_f hR c347
        refine lv_iload hx hb dL_acts_350 (lv_at hl 4 rfl) ?_
        refine lv_aload hx hb dL_acts_352 (lv_at hl 2 rfl) ?_
        refine lv_iconst (v := 3) hx hb dL_acts_354 ic_3 ?_
        refine lv_iload hx hb dL_acts_355 (lv_at hl 5 rfl) ?_
        refine lv_imul hx hb dL_acts_357 ?_
        replace hR := gi_e hR
        obtain ⟨i358, hR⟩ := hR
        refine va_iald hx hb hK hP 3 0 rfl rfl i358 dL_acts_358 ?_
        refine lv_iadd hx hb dL_acts_359 ?_
        replace hR := bn_e hR
        obtain ⟨x360, ex360, hR⟩ := hR
        refine tp_g ex360 ?_
        refine lv_istore (lv' := [(12, .int x360), (0, .ref (ad 0)), (1, .ref b1), (4, .ref b4), (11, .int v11_342), (13, .int v13_342)]) hx hb dL_acts_360 hl (Nat.le_of_ble_eq_true rfl) rfl (fun ls hl => ?_)
        refine lv_iinc (v := (v13_342 + 1)) (lv' := [(13, .int (v13_342 + 1)), (12, .int x360), (0, .ref (ad 0)), (1, .ref b1), (4, .ref b4), (11, .int v11_342)]) hx hb dL_acts_362 hl (k := 5) rfl rfl (Nat.le_of_ble_eq_true rfl) rfl (fun ls hl => ?_)
        refine lv_goto (tgt := 342) hx hb dL_acts_365 (by decide) ?_
        exact hI342 S1_342h S2_342h S3_342h S4_342h S5_342h S6_342h S7_342h S8_342h v11_342 x360 (v13_342 + 1) H _ ls hR hP hD hS (lv_sub hl [2, 3, 4, 5, 1, 0] rfl)
  have hB311 : ∀ (S1_311h : T1) (S2_311h : T1) (S3_311h : T1) (S4_311h : T1) (S5_311h : T1) (S6_311h : T1) (S7_311h : T1) (S8_311h : T5) (v11_311 : Int32) (H : Heap) (locs : List Loc) (ls : Array Slot), fL_acts_311 p8 S1_311h S2_311h S3_311h S4_311h S5_311h S6_311h S7_311h S8_311h v11_311 = some (r, u1, u2, u3, u4, u5, u6, u7, u8) → va_P (dC, dI) vwCl (fl [[(b1, .inl (cs 0, 8, .inl S1_311h))], [(b2, .inl (cs 0, 24, .inl S2_311h))], [(b3, .inl (cs 0, 48, .inl S3_311h))], [(b4, .inl (cs 0, 48, .inl S4_311h))], [(b5, .inl (cs 0, 40, .inl S5_311h))], [(b6, .inl (cs 0, 32, .inl S6_311h))], [(b7, .inl (cs 0, 6, .inl S7_311h))], (w_X10 ad (0) cs en S8_311h)]) H → va_D A (fl [[(b1, .inl (cs 0, 8, .inl S1_311h))], [(b2, .inl (cs 0, 24, .inl S2_311h))], [(b3, .inl (cs 0, 48, .inl S3_311h))], [(b4, .inl (cs 0, 48, .inl S4_311h))], [(b5, .inl (cs 0, 40, .inl S5_311h))], [(b6, .inl (cs 0, 32, .inl S6_311h))], [(b7, .inl (cs 0, 6, .inl S7_311h))], (w_X10 ad (0) cs en S8_311h)]) → va_S A s.heap H locs → lv_has ls 14 [(0, .ref (ad 0)), (11, .int v11_311)] → W p l e (headSpec wsL_acts ({ frames := 7, cells := 0, slots := 0, locals := 171 } : Room)).room s m ([.ref (ad 0), .ref b1, .ref b2, .ref b3, .ref b4, .ref b5, .ref b6, .ref b7, .int p8] : List Value).toArray below meth c H locs 0 0 (MQ below (QI dC dI (tyL cs) A (fl [[(b1, .inl (cs 0, 8, .inl u1))], [(b2, .inl (cs 0, 24, .inl u2))], [(b3, .inl (cs 0, 48, .inl u3))], [(b4, .inl (cs 0, 48, .inl u4))], [(b5, .inl (cs 0, 40, .inl u5))], [(b6, .inl (cs 0, 32, .inl u6))], [(b7, .inl (cs 0, 6, .inl u7))], (w_X10 ad (0) cs en u8)]) r) ([.ref (ad 0), .ref b1, .ref b2, .ref b3, .ref b4, .ref b5, .ref b6, .ref b7, .int p8] : List Value).toArray s 0 0 A) (F0 m 311 ls []) := by
    intro S1_311h S2_311h S3_311h S4_311h S5_311h S6_311h S7_311h S8_311h v11_311 H locs ls hR hP hD hS hl
    refine lv_aload_n hx hb dL_acts_311 rfl (lv_at hl 0 rfl) ?_
    refine lv_iload hx hb dL_acts_312 (lv_at hl 1 rfl) ?_
    replace hR := bd_e hR
    obtain ⟨q314, gq314, hR⟩ := hR
    refine cm_Vi (As := [.int v11_311]) (rest := []) (L := [[(b1, .inl (cs 0, 8, .inl S1_311h))], [(b2, .inl (cs 0, 24, .inl S2_311h))], [(b3, .inl (cs 0, 48, .inl S3_311h))], [(b4, .inl (cs 0, 48, .inl S4_311h))], [(b5, .inl (cs 0, 40, .inl S5_311h))], [(b6, .inl (cs 0, 32, .inl S6_311h))], [(b7, .inl (cs 0, 6, .inl S7_311h))], (w_X10 ad (0) cs en S8_311h)]) (L' := [[(b1, .inl (cs 0, 8, .inl S1_311h))], [(b2, .inl (cs 0, 24, .inl S2_311h))], [(b3, .inl (cs 0, 48, .inl S3_311h))], [(b4, .inl (cs 0, 48, .inl S4_311h))], [(b5, .inl (cs 0, 40, .inl S5_311h))], [(b6, .inl (cs 0, 32, .inl S6_311h))], [(b7, .inl (cs 0, 6, .inl S7_311h))], (w_X10 ad (0) cs en q314.2)]) (Wc := [(w_X10 ad (0) cs en S8_311h)]) (Wc' := [(w_X10 ad (0) cs en q314.2)]) (is := [7]) (js := [0, 1, 2, 3, 4, 5, 6]) ⟨hx, hb, hml, hown, hts⟩ (k_X10_report l dC dI cs ad en H.size S8_311h v11_311 q314.1 q314.2 gq314) (cwV 1 hts gL_acts_X10_report rfl rfl rfl cd_X10_report ⟨Nat.le_of_ble_eq_true rfl, Nat.le_of_ble_eq_true rfl⟩) hK hP hD hS hA (jx_7 (w_X10_fst ad 0 cs en _ _)) (jn_nd (is := [7]) hD rfl rfl) 7 8 rfl rfl rfl rfl rfl hl.1 (Nat.le_of_ble_eq_true rfl) dL_acts_314 ⟨Nat.le_of_ble_eq_true rfl, Nat.le_of_ble_eq_true rfl⟩ (fun H314 locs314 hP' hD' hS' => ?_)
    replace hS := hS'
    replace hP : va_P (dC, dI) vwCl (fl [[(b1, .inl (cs 0, 8, .inl S1_311h))], [(b2, .inl (cs 0, 24, .inl S2_311h))], [(b3, .inl (cs 0, 48, .inl S3_311h))], [(b4, .inl (cs 0, 48, .inl S4_311h))], [(b5, .inl (cs 0, 40, .inl S5_311h))], [(b6, .inl (cs 0, 32, .inl S6_311h))], [(b7, .inl (cs 0, 6, .inl S7_311h))], (w_X10 ad (0) cs en q314.2)]) H314 := hP'
    replace hD : va_D A (fl [[(b1, .inl (cs 0, 8, .inl S1_311h))], [(b2, .inl (cs 0, 24, .inl S2_311h))], [(b3, .inl (cs 0, 48, .inl S3_311h))], [(b4, .inl (cs 0, 48, .inl S4_311h))], [(b5, .inl (cs 0, 40, .inl S5_311h))], [(b6, .inl (cs 0, 32, .inl S6_311h))], [(b7, .inl (cs 0, 6, .inl S7_311h))], (w_X10 ad (0) cs en q314.2)]) := hD'
    clear hP' hD' hS'
    refine lv_bipush (v := (-2)) hx hb dL_acts_317 bp_m2 ?_
    refine lv_icmp_ne (tgt := 326) hx hb dL_acts_319 (by decide) (fun c319 => ?_) (fun c319 => ?_)
    · replace hR := it_f hR c319
      refine lv_iconst (v := 0) hx hb dL_acts_326 ic_0 ?_
      replace hR := Option.some.inj hR
      obtain ⟨e9, hR⟩ := Prod.mk.inj hR
      obtain ⟨eu1, hR⟩ := Prod.mk.inj hR
      obtain ⟨eu2, hR⟩ := Prod.mk.inj hR
      obtain ⟨eu3, hR⟩ := Prod.mk.inj hR
      obtain ⟨eu4, hR⟩ := Prod.mk.inj hR
      obtain ⟨eu5, hR⟩ := Prod.mk.inj hR
      obtain ⟨eu6, hR⟩ := Prod.mk.inj hR
      obtain ⟨eu7, hR⟩ := Prod.mk.inj hR
      have eu8 := hR
      replace hP : va_P (dC, dI) vwCl (fl [[(b1, .inl (cs 0, 8, .inl u1))], [(b2, .inl (cs 0, 24, .inl u2))], [(b3, .inl (cs 0, 48, .inl u3))], [(b4, .inl (cs 0, 48, .inl u4))], [(b5, .inl (cs 0, 40, .inl u5))], [(b6, .inl (cs 0, 32, .inl u6))], [(b7, .inl (cs 0, 6, .inl u7))], (w_X10 ad (0) cs en u8)]) H314 := by rw [← eu1, ← eu2, ← eu3, ← eu4, ← eu5, ← eu6, ← eu7, ← eu8]; exact hP
      replace hD : va_D A (fl [[(b1, .inl (cs 0, 8, .inl u1))], [(b2, .inl (cs 0, 24, .inl u2))], [(b3, .inl (cs 0, 48, .inl u3))], [(b4, .inl (cs 0, 48, .inl u4))], [(b5, .inl (cs 0, 40, .inl u5))], [(b6, .inl (cs 0, 32, .inl u6))], [(b7, .inl (cs 0, 6, .inl u7))], (w_X10 ad (0) cs en u8)]) := by rw [← eu1, ← eu2, ← eu3, ← eu4, ← eu5, ← eu6, ← eu7, ← eu8]; exact hD
      exact W.zret (ty := .boolean) hx hb hr (by decide) (fun t ht hW => ⟨⟨_, (), rfl, e9, by rw [ht]; exact hP, va_K.moved hW.alike hK, hD⟩, hS.F ht⟩) hS.2.2 dL_acts_327
    · replace hR := it_t hR c319
      refine lv_iconst (v := 1) hx hb dL_acts_322 ic_1 ?_
      refine lv_goto (tgt := 327) hx hb dL_acts_323 (by decide) ?_
      replace hR := Option.some.inj hR
      obtain ⟨e9, hR⟩ := Prod.mk.inj hR
      obtain ⟨eu1, hR⟩ := Prod.mk.inj hR
      obtain ⟨eu2, hR⟩ := Prod.mk.inj hR
      obtain ⟨eu3, hR⟩ := Prod.mk.inj hR
      obtain ⟨eu4, hR⟩ := Prod.mk.inj hR
      obtain ⟨eu5, hR⟩ := Prod.mk.inj hR
      obtain ⟨eu6, hR⟩ := Prod.mk.inj hR
      obtain ⟨eu7, hR⟩ := Prod.mk.inj hR
      have eu8 := hR
      replace hP : va_P (dC, dI) vwCl (fl [[(b1, .inl (cs 0, 8, .inl u1))], [(b2, .inl (cs 0, 24, .inl u2))], [(b3, .inl (cs 0, 48, .inl u3))], [(b4, .inl (cs 0, 48, .inl u4))], [(b5, .inl (cs 0, 40, .inl u5))], [(b6, .inl (cs 0, 32, .inl u6))], [(b7, .inl (cs 0, 6, .inl u7))], (w_X10 ad (0) cs en u8)]) H314 := by rw [← eu1, ← eu2, ← eu3, ← eu4, ← eu5, ← eu6, ← eu7, ← eu8]; exact hP
      replace hD : va_D A (fl [[(b1, .inl (cs 0, 8, .inl u1))], [(b2, .inl (cs 0, 24, .inl u2))], [(b3, .inl (cs 0, 48, .inl u3))], [(b4, .inl (cs 0, 48, .inl u4))], [(b5, .inl (cs 0, 40, .inl u5))], [(b6, .inl (cs 0, 32, .inl u6))], [(b7, .inl (cs 0, 6, .inl u7))], (w_X10 ad (0) cs en u8)]) := by rw [← eu1, ← eu2, ← eu3, ← eu4, ← eu5, ← eu6, ← eu7, ← eu8]; exact hD
      exact W.zret (ty := .boolean) hx hb hr (by decide) (fun t ht hW => ⟨⟨_, (), rfl, e9, by rw [ht]; exact hP, va_K.moved hW.alike hK, hD⟩, hS.F ht⟩) hS.2.2 dL_acts_327
  have hB250 : ∀ (S1_250h : T1) (S2_250h : T1) (S3_250h : T1) (S4_250h : T1) (S5_250h : T1) (S6_250h : T1) (S7_250h : T1) (S8_250h : T5) (v9_250 : Int32) (t6_250 : Int32) (H : Heap) (locs : List Loc) (ls : Array Slot), fL_acts_250 p8 S1_250h S2_250h S3_250h S4_250h S5_250h S6_250h S7_250h S8_250h v9_250 t6_250 = some (r, u1, u2, u3, u4, u5, u6, u7, u8) → va_P (dC, dI) vwCl (fl [[(b1, .inl (cs 0, 8, .inl S1_250h))], [(b2, .inl (cs 0, 24, .inl S2_250h))], [(b3, .inl (cs 0, 48, .inl S3_250h))], [(b4, .inl (cs 0, 48, .inl S4_250h))], [(b5, .inl (cs 0, 40, .inl S5_250h))], [(b6, .inl (cs 0, 32, .inl S6_250h))], [(b7, .inl (cs 0, 6, .inl S7_250h))], (w_X10 ad (0) cs en S8_250h)]) H → va_D A (fl [[(b1, .inl (cs 0, 8, .inl S1_250h))], [(b2, .inl (cs 0, 24, .inl S2_250h))], [(b3, .inl (cs 0, 48, .inl S3_250h))], [(b4, .inl (cs 0, 48, .inl S4_250h))], [(b5, .inl (cs 0, 40, .inl S5_250h))], [(b6, .inl (cs 0, 32, .inl S6_250h))], [(b7, .inl (cs 0, 6, .inl S7_250h))], (w_X10 ad (0) cs en S8_250h)]) → va_S A s.heap H locs → lv_has ls 14 [(9, .int v9_250)] → W p l e (headSpec wsL_acts ({ frames := 7, cells := 0, slots := 0, locals := 171 } : Room)).room s m ([.ref (ad 0), .ref b1, .ref b2, .ref b3, .ref b4, .ref b5, .ref b6, .ref b7, .int p8] : List Value).toArray below meth c H locs 0 0 (MQ below (QI dC dI (tyL cs) A (fl [[(b1, .inl (cs 0, 8, .inl u1))], [(b2, .inl (cs 0, 24, .inl u2))], [(b3, .inl (cs 0, 48, .inl u3))], [(b4, .inl (cs 0, 48, .inl u4))], [(b5, .inl (cs 0, 40, .inl u5))], [(b6, .inl (cs 0, 32, .inl u6))], [(b7, .inl (cs 0, 6, .inl u7))], (w_X10 ad (0) cs en u8)]) r) ([.ref (ad 0), .ref b1, .ref b2, .ref b3, .ref b4, .ref b5, .ref b6, .ref b7, .int p8] : List Value).toArray s 0 0 A) (F0 m 250 ls [.int t6_250, .ref b7, .ref b4, .ref b3, .ref b2, .ref b1, .ref (ad 0)]) := by
    intro S1_250h S2_250h S3_250h S4_250h S5_250h S6_250h S7_250h S8_250h v9_250 t6_250 H locs ls hR hP hD hS hl
    refine lv_iload hx hb dL_acts_250 (lv_at hl 0 rfl) ?_
    replace hR := bd_e hR
    obtain ⟨q252, gq252, hR⟩ := hR
    refine cm_Si (As := [.ref (ad 0), .ref b1, .ref b2, .ref b3, .ref b4, .ref b7, .int t6_250, .int v9_250]) (rest := []) (L := [[(b1, .inl (cs 0, 8, .inl S1_250h))], [(b2, .inl (cs 0, 24, .inl S2_250h))], [(b3, .inl (cs 0, 48, .inl S3_250h))], [(b4, .inl (cs 0, 48, .inl S4_250h))], [(b5, .inl (cs 0, 40, .inl S5_250h))], [(b6, .inl (cs 0, 32, .inl S6_250h))], [(b7, .inl (cs 0, 6, .inl S7_250h))], (w_X10 ad (0) cs en S8_250h)]) (L' := [[(b1, .inl (cs 0, 8, .inl S1_250h))], [(b2, .inl (cs 0, 24, .inl S2_250h))], [(b3, .inl (cs 0, 48, .inl q252.2.1))], [(b4, .inl (cs 0, 48, .inl q252.2.2.1))], [(b5, .inl (cs 0, 40, .inl S5_250h))], [(b6, .inl (cs 0, 32, .inl S6_250h))], [(b7, .inl (cs 0, 6, .inl q252.2.2.2.1))], (w_X10 ad (0) cs en q252.2.2.2.2)]) (Wc := [[(b1, .inl (cs 0, 8, .inl S1_250h))], [(b2, .inl (cs 0, 24, .inl S2_250h))], [(b3, .inl (cs 0, 48, .inl S3_250h))], [(b4, .inl (cs 0, 48, .inl S4_250h))], [(b7, .inl (cs 0, 6, .inl S7_250h))], (w_X10 ad (0) cs en S8_250h)]) (Wc' := [[(b1, .inl (cs 0, 8, .inl S1_250h))], [(b2, .inl (cs 0, 24, .inl S2_250h))], [(b3, .inl (cs 0, 48, .inl q252.2.1))], [(b4, .inl (cs 0, 48, .inl q252.2.2.1))], [(b7, .inl (cs 0, 6, .inl q252.2.2.2.1))], (w_X10 ad (0) cs en q252.2.2.2.2)]) (is := [0, 1, 2, 3, 6, 7]) (js := [4, 5]) ⟨hx, hb, hml, hown, hts⟩ (k_L_drives l dC dI cs ad en (b1) (b2) (b3) (b4) (b7) H.size S1_250h S2_250h S3_250h S4_250h S7_250h S8_250h t6_250 v9_250 q252.1 q252.2.1 q252.2.2.1 q252.2.2.2.1 q252.2.2.2.2 gq252) (va_cwS 8 hts gL_acts_L_drives rfl rfl rfl cd_L_drives.2 ⟨Nat.le_of_ble_eq_true rfl, Nat.le_of_ble_eq_true rfl⟩) hK hP hD hS hA ⟨rfl, rfl, rfl, rfl, rfl, rfl⟩ (jn_nd (is := [0, 1, 2, 3, 6, 7]) hD rfl rfl) rfl rfl hl.1 (Nat.le_of_ble_eq_true rfl) dL_acts_252 ⟨Nat.le_of_ble_eq_true rfl, Nat.le_of_ble_eq_true rfl⟩ (fun H252 locs252 hP' hD' hS' => ?_)
    replace hS := hS'
    replace hP : va_P (dC, dI) vwCl (fl [[(b1, .inl (cs 0, 8, .inl S1_250h))], [(b2, .inl (cs 0, 24, .inl S2_250h))], [(b3, .inl (cs 0, 48, .inl q252.2.1))], [(b4, .inl (cs 0, 48, .inl q252.2.2.1))], [(b5, .inl (cs 0, 40, .inl S5_250h))], [(b6, .inl (cs 0, 32, .inl S6_250h))], [(b7, .inl (cs 0, 6, .inl q252.2.2.2.1))], (w_X10 ad (0) cs en q252.2.2.2.2)]) H252 := hP'
    replace hD : va_D A (fl [[(b1, .inl (cs 0, 8, .inl S1_250h))], [(b2, .inl (cs 0, 24, .inl S2_250h))], [(b3, .inl (cs 0, 48, .inl q252.2.1))], [(b4, .inl (cs 0, 48, .inl q252.2.2.1))], [(b5, .inl (cs 0, 40, .inl S5_250h))], [(b6, .inl (cs 0, 32, .inl S6_250h))], [(b7, .inl (cs 0, 6, .inl q252.2.2.2.1))], (w_X10 ad (0) cs en q252.2.2.2.2)]) := hD'
    clear hP' hD' hS'
    replace hR := gz_e hR
    obtain ⟨hn, hR⟩ := hR
    replace hR := Option.some.inj hR
    obtain ⟨e9, hR⟩ := Prod.mk.inj hR
    obtain ⟨eu1, hR⟩ := Prod.mk.inj hR
    obtain ⟨eu2, hR⟩ := Prod.mk.inj hR
    obtain ⟨eu3, hR⟩ := Prod.mk.inj hR
    obtain ⟨eu4, hR⟩ := Prod.mk.inj hR
    obtain ⟨eu5, hR⟩ := Prod.mk.inj hR
    obtain ⟨eu6, hR⟩ := Prod.mk.inj hR
    obtain ⟨eu7, hR⟩ := Prod.mk.inj hR
    have eu8 := hR
    replace hP : va_P (dC, dI) vwCl (fl [[(b1, .inl (cs 0, 8, .inl u1))], [(b2, .inl (cs 0, 24, .inl u2))], [(b3, .inl (cs 0, 48, .inl u3))], [(b4, .inl (cs 0, 48, .inl u4))], [(b5, .inl (cs 0, 40, .inl u5))], [(b6, .inl (cs 0, 32, .inl u6))], [(b7, .inl (cs 0, 6, .inl u7))], (w_X10 ad (0) cs en u8)]) H252 := by rw [← eu1, ← eu2, ← eu3, ← eu4, ← eu5, ← eu6, ← eu7, ← eu8]; exact hP
    replace hD : va_D A (fl [[(b1, .inl (cs 0, 8, .inl u1))], [(b2, .inl (cs 0, 24, .inl u2))], [(b3, .inl (cs 0, 48, .inl u3))], [(b4, .inl (cs 0, 48, .inl u4))], [(b5, .inl (cs 0, 40, .inl u5))], [(b6, .inl (cs 0, 32, .inl u6))], [(b7, .inl (cs 0, 6, .inl u7))], (w_X10 ad (0) cs en u8)]) := by rw [← eu1, ← eu2, ← eu3, ← eu4, ← eu5, ← eu6, ← eu7, ← eu8]; exact hD
    exact W.zret (ty := .boolean) hx hb hr hn (fun t ht hW => ⟨⟨_, (), rfl, e9, by rw [ht]; exact hP, va_K.moved hW.alike hK, hD⟩, hS.F ht⟩) hS.2.2 dL_acts_255
  have hB195 : ∀ (S1_195h : T1) (S2_195h : T1) (S3_195h : T1) (S4_195h : T1) (S5_195h : T1) (S6_195h : T1) (S7_195h : T1) (S8_195h : T5) (v9_195 : Int32) (t7_195 : Int32) (H : Heap) (locs : List Loc) (ls : Array Slot), fL_acts_195 p8 S1_195h S2_195h S3_195h S4_195h S5_195h S6_195h S7_195h S8_195h v9_195 t7_195 = some (r, u1, u2, u3, u4, u5, u6, u7, u8) → va_P (dC, dI) vwCl (fl [[(b1, .inl (cs 0, 8, .inl S1_195h))], [(b2, .inl (cs 0, 24, .inl S2_195h))], [(b3, .inl (cs 0, 48, .inl S3_195h))], [(b4, .inl (cs 0, 48, .inl S4_195h))], [(b5, .inl (cs 0, 40, .inl S5_195h))], [(b6, .inl (cs 0, 32, .inl S6_195h))], [(b7, .inl (cs 0, 6, .inl S7_195h))], (w_X10 ad (0) cs en S8_195h)]) H → va_D A (fl [[(b1, .inl (cs 0, 8, .inl S1_195h))], [(b2, .inl (cs 0, 24, .inl S2_195h))], [(b3, .inl (cs 0, 48, .inl S3_195h))], [(b4, .inl (cs 0, 48, .inl S4_195h))], [(b5, .inl (cs 0, 40, .inl S5_195h))], [(b6, .inl (cs 0, 32, .inl S6_195h))], [(b7, .inl (cs 0, 6, .inl S7_195h))], (w_X10 ad (0) cs en S8_195h)]) → va_S A s.heap H locs → lv_has ls 14 [(9, .int v9_195)] → W p l e (headSpec wsL_acts ({ frames := 7, cells := 0, slots := 0, locals := 171 } : Room)).room s m ([.ref (ad 0), .ref b1, .ref b2, .ref b3, .ref b4, .ref b5, .ref b6, .ref b7, .int p8] : List Value).toArray below meth c H locs 0 0 (MQ below (QI dC dI (tyL cs) A (fl [[(b1, .inl (cs 0, 8, .inl u1))], [(b2, .inl (cs 0, 24, .inl u2))], [(b3, .inl (cs 0, 48, .inl u3))], [(b4, .inl (cs 0, 48, .inl u4))], [(b5, .inl (cs 0, 40, .inl u5))], [(b6, .inl (cs 0, 32, .inl u6))], [(b7, .inl (cs 0, 6, .inl u7))], (w_X10 ad (0) cs en u8)]) r) ([.ref (ad 0), .ref b1, .ref b2, .ref b3, .ref b4, .ref b5, .ref b6, .ref b7, .int p8] : List Value).toArray s 0 0 A) (F0 m 195 ls [.int t7_195, .ref b6, .ref b5, .ref b4, .ref b3, .ref b2, .ref b1, .ref (ad 0)]) := by
    intro S1_195h S2_195h S3_195h S4_195h S5_195h S6_195h S7_195h S8_195h v9_195 t7_195 H locs ls hR hP hD hS hl
    refine lv_iload hx hb dL_acts_195 (lv_at hl 0 rfl) ?_
    replace hR := bd_e hR
    obtain ⟨q197, gq197, hR⟩ := hR
    refine cm_Si (As := [.ref (ad 0), .ref b1, .ref b2, .ref b3, .ref b4, .ref b5, .ref b6, .int t7_195, .int v9_195]) (rest := []) (L := [[(b1, .inl (cs 0, 8, .inl S1_195h))], [(b2, .inl (cs 0, 24, .inl S2_195h))], [(b3, .inl (cs 0, 48, .inl S3_195h))], [(b4, .inl (cs 0, 48, .inl S4_195h))], [(b5, .inl (cs 0, 40, .inl S5_195h))], [(b6, .inl (cs 0, 32, .inl S6_195h))], [(b7, .inl (cs 0, 6, .inl S7_195h))], (w_X10 ad (0) cs en S8_195h)]) (L' := [[(b1, .inl (cs 0, 8, .inl S1_195h))], [(b2, .inl (cs 0, 24, .inl q197.2.1))], [(b3, .inl (cs 0, 48, .inl q197.2.2.1))], [(b4, .inl (cs 0, 48, .inl q197.2.2.2.1))], [(b5, .inl (cs 0, 40, .inl q197.2.2.2.2.1))], [(b6, .inl (cs 0, 32, .inl q197.2.2.2.2.2.1))], [(b7, .inl (cs 0, 6, .inl S7_195h))], (w_X10 ad (0) cs en q197.2.2.2.2.2.2)]) (Wc := [[(b1, .inl (cs 0, 8, .inl S1_195h))], [(b2, .inl (cs 0, 24, .inl S2_195h))], [(b3, .inl (cs 0, 48, .inl S3_195h))], [(b4, .inl (cs 0, 48, .inl S4_195h))], [(b5, .inl (cs 0, 40, .inl S5_195h))], [(b6, .inl (cs 0, 32, .inl S6_195h))], (w_X10 ad (0) cs en S8_195h)]) (Wc' := [[(b1, .inl (cs 0, 8, .inl S1_195h))], [(b2, .inl (cs 0, 24, .inl q197.2.1))], [(b3, .inl (cs 0, 48, .inl q197.2.2.1))], [(b4, .inl (cs 0, 48, .inl q197.2.2.2.1))], [(b5, .inl (cs 0, 40, .inl q197.2.2.2.2.1))], [(b6, .inl (cs 0, 32, .inl q197.2.2.2.2.2.1))], (w_X10 ad (0) cs en q197.2.2.2.2.2.2)]) (is := [0, 1, 2, 3, 4, 5, 7]) (js := [6]) ⟨hx, hb, hml, hown, hts⟩ (k_L_rides l dC dI cs ad en (b1) (b2) (b3) (b4) (b5) (b6) H.size S1_195h S2_195h S3_195h S4_195h S5_195h S6_195h S8_195h t7_195 v9_195 q197.1 q197.2.1 q197.2.2.1 q197.2.2.2.1 q197.2.2.2.2.1 q197.2.2.2.2.2.1 q197.2.2.2.2.2.2 gq197) (va_cwS 9 hts gL_acts_L_rides rfl rfl rfl cd_L_rides.2 ⟨Nat.le_of_ble_eq_true rfl, Nat.le_of_ble_eq_true rfl⟩) hK hP hD hS hA ⟨rfl, rfl, rfl, rfl, rfl, rfl⟩ (jn_nd (is := [0, 1, 2, 3, 4, 5, 7]) hD rfl rfl) rfl rfl hl.1 (Nat.le_of_ble_eq_true rfl) dL_acts_197 ⟨Nat.le_of_ble_eq_true rfl, Nat.le_of_ble_eq_true rfl⟩ (fun H197 locs197 hP' hD' hS' => ?_)
    replace hS := hS'
    replace hP : va_P (dC, dI) vwCl (fl [[(b1, .inl (cs 0, 8, .inl S1_195h))], [(b2, .inl (cs 0, 24, .inl q197.2.1))], [(b3, .inl (cs 0, 48, .inl q197.2.2.1))], [(b4, .inl (cs 0, 48, .inl q197.2.2.2.1))], [(b5, .inl (cs 0, 40, .inl q197.2.2.2.2.1))], [(b6, .inl (cs 0, 32, .inl q197.2.2.2.2.2.1))], [(b7, .inl (cs 0, 6, .inl S7_195h))], (w_X10 ad (0) cs en q197.2.2.2.2.2.2)]) H197 := hP'
    replace hD : va_D A (fl [[(b1, .inl (cs 0, 8, .inl S1_195h))], [(b2, .inl (cs 0, 24, .inl q197.2.1))], [(b3, .inl (cs 0, 48, .inl q197.2.2.1))], [(b4, .inl (cs 0, 48, .inl q197.2.2.2.1))], [(b5, .inl (cs 0, 40, .inl q197.2.2.2.2.1))], [(b6, .inl (cs 0, 32, .inl q197.2.2.2.2.2.1))], [(b7, .inl (cs 0, 6, .inl S7_195h))], (w_X10 ad (0) cs en q197.2.2.2.2.2.2)]) := hD'
    clear hP' hD' hS'
    replace hR := gz_e hR
    obtain ⟨hn, hR⟩ := hR
    replace hR := Option.some.inj hR
    obtain ⟨e9, hR⟩ := Prod.mk.inj hR
    obtain ⟨eu1, hR⟩ := Prod.mk.inj hR
    obtain ⟨eu2, hR⟩ := Prod.mk.inj hR
    obtain ⟨eu3, hR⟩ := Prod.mk.inj hR
    obtain ⟨eu4, hR⟩ := Prod.mk.inj hR
    obtain ⟨eu5, hR⟩ := Prod.mk.inj hR
    obtain ⟨eu6, hR⟩ := Prod.mk.inj hR
    obtain ⟨eu7, hR⟩ := Prod.mk.inj hR
    have eu8 := hR
    replace hP : va_P (dC, dI) vwCl (fl [[(b1, .inl (cs 0, 8, .inl u1))], [(b2, .inl (cs 0, 24, .inl u2))], [(b3, .inl (cs 0, 48, .inl u3))], [(b4, .inl (cs 0, 48, .inl u4))], [(b5, .inl (cs 0, 40, .inl u5))], [(b6, .inl (cs 0, 32, .inl u6))], [(b7, .inl (cs 0, 6, .inl u7))], (w_X10 ad (0) cs en u8)]) H197 := by rw [← eu1, ← eu2, ← eu3, ← eu4, ← eu5, ← eu6, ← eu7, ← eu8]; exact hP
    replace hD : va_D A (fl [[(b1, .inl (cs 0, 8, .inl u1))], [(b2, .inl (cs 0, 24, .inl u2))], [(b3, .inl (cs 0, 48, .inl u3))], [(b4, .inl (cs 0, 48, .inl u4))], [(b5, .inl (cs 0, 40, .inl u5))], [(b6, .inl (cs 0, 32, .inl u6))], [(b7, .inl (cs 0, 6, .inl u7))], (w_X10 ad (0) cs en u8)]) := by rw [← eu1, ← eu2, ← eu3, ← eu4, ← eu5, ← eu6, ← eu7, ← eu8]; exact hD
    exact W.zret (ty := .boolean) hx hb hr hn (fun t ht hW => ⟨⟨_, (), rfl, e9, by rw [ht]; exact hP, va_K.moved hW.alike hK, hD⟩, hS.F ht⟩) hS.2.2 dL_acts_200
  have hB125 : ∀ (S1_125h : T1) (S2_125h : T1) (S3_125h : T1) (S4_125h : T1) (S5_125h : T1) (S6_125h : T1) (S7_125h : T1) (S8_125h : T5) (v9_125 : Int32) (H : Heap) (locs : List Loc) (ls : Array Slot), fL_acts_125 p8 S1_125h S2_125h S3_125h S4_125h S5_125h S6_125h S7_125h S8_125h v9_125 = some (r, u1, u2, u3, u4, u5, u6, u7, u8) → va_P (dC, dI) vwCl (fl [[(b1, .inl (cs 0, 8, .inl S1_125h))], [(b2, .inl (cs 0, 24, .inl S2_125h))], [(b3, .inl (cs 0, 48, .inl S3_125h))], [(b4, .inl (cs 0, 48, .inl S4_125h))], [(b5, .inl (cs 0, 40, .inl S5_125h))], [(b6, .inl (cs 0, 32, .inl S6_125h))], [(b7, .inl (cs 0, 6, .inl S7_125h))], (w_X10 ad (0) cs en S8_125h)]) H → va_D A (fl [[(b1, .inl (cs 0, 8, .inl S1_125h))], [(b2, .inl (cs 0, 24, .inl S2_125h))], [(b3, .inl (cs 0, 48, .inl S3_125h))], [(b4, .inl (cs 0, 48, .inl S4_125h))], [(b5, .inl (cs 0, 40, .inl S5_125h))], [(b6, .inl (cs 0, 32, .inl S6_125h))], [(b7, .inl (cs 0, 6, .inl S7_125h))], (w_X10 ad (0) cs en S8_125h)]) → va_S A s.heap H locs → lv_has ls 14 [(0, .ref (ad 0)), (1, .ref b1), (2, .ref b2), (3, .ref b3), (4, .ref b4), (5, .ref b5), (6, .ref b6), (7, .ref b7), (9, .int v9_125)] → W p l e (headSpec wsL_acts ({ frames := 7, cells := 0, slots := 0, locals := 171 } : Room)).room s m ([.ref (ad 0), .ref b1, .ref b2, .ref b3, .ref b4, .ref b5, .ref b6, .ref b7, .int p8] : List Value).toArray below meth c H locs 0 0 (MQ below (QI dC dI (tyL cs) A (fl [[(b1, .inl (cs 0, 8, .inl u1))], [(b2, .inl (cs 0, 24, .inl u2))], [(b3, .inl (cs 0, 48, .inl u3))], [(b4, .inl (cs 0, 48, .inl u4))], [(b5, .inl (cs 0, 40, .inl u5))], [(b6, .inl (cs 0, 32, .inl u6))], [(b7, .inl (cs 0, 6, .inl u7))], (w_X10 ad (0) cs en u8)]) r) ([.ref (ad 0), .ref b1, .ref b2, .ref b3, .ref b4, .ref b5, .ref b6, .ref b7, .int p8] : List Value).toArray s 0 0 A) (F0 m 125 ls []) := by
    intro S1_125h S2_125h S3_125h S4_125h S5_125h S6_125h S7_125h S8_125h v9_125 H locs ls hR hP hD hS hl
    refine lv_aload_n hx hb dL_acts_125 rfl (lv_at hl 0 rfl) ?_
    refine lv_aload_n hx hb dL_acts_126 rfl (lv_at hl 1 rfl) ?_
    refine lv_aload_n hx hb dL_acts_127 rfl (lv_at hl 2 rfl) ?_
    refine lv_aload_n hx hb dL_acts_128 rfl (lv_at hl 3 rfl) ?_
    refine lv_aload hx hb dL_acts_129 (lv_at hl 4 rfl) ?_
    refine lv_aload hx hb dL_acts_131 (lv_at hl 5 rfl) ?_
    refine lv_aload hx hb dL_acts_133 (lv_at hl 6 rfl) ?_
    refine lv_aload hx hb dL_acts_135 (lv_at hl 7 rfl) ?_
    refine lv_iconst (v := 3) hx hb dL_acts_137 ic_3 ?_
    refine lv_iload hx hb dL_acts_138 (lv_at hl 8 rfl) ?_
    replace hR := bd_e hR
    obtain ⟨q140, gq140, hR⟩ := hR
    refine cm_Si (As := [.ref (ad 0), .ref b1, .ref b2, .ref b3, .ref b4, .ref b5, .ref b6, .ref b7, .int (3 : Int32), .int v9_125]) (rest := []) (L := [[(b1, .inl (cs 0, 8, .inl S1_125h))], [(b2, .inl (cs 0, 24, .inl S2_125h))], [(b3, .inl (cs 0, 48, .inl S3_125h))], [(b4, .inl (cs 0, 48, .inl S4_125h))], [(b5, .inl (cs 0, 40, .inl S5_125h))], [(b6, .inl (cs 0, 32, .inl S6_125h))], [(b7, .inl (cs 0, 6, .inl S7_125h))], (w_X10 ad (0) cs en S8_125h)]) (L' := [[(b1, .inl (cs 0, 8, .inl q140.2.1))], [(b2, .inl (cs 0, 24, .inl q140.2.2.1))], [(b3, .inl (cs 0, 48, .inl q140.2.2.2.1))], [(b4, .inl (cs 0, 48, .inl S4_125h))], [(b5, .inl (cs 0, 40, .inl q140.2.2.2.2.1))], [(b6, .inl (cs 0, 32, .inl S6_125h))], [(b7, .inl (cs 0, 6, .inl q140.2.2.2.2.2.1))], (w_X10 ad (0) cs en q140.2.2.2.2.2.2)]) (Wc := [[(b1, .inl (cs 0, 8, .inl S1_125h))], [(b2, .inl (cs 0, 24, .inl S2_125h))], [(b3, .inl (cs 0, 48, .inl S3_125h))], [(b4, .inl (cs 0, 48, .inl S4_125h))], [(b5, .inl (cs 0, 40, .inl S5_125h))], [(b6, .inl (cs 0, 32, .inl S6_125h))], [(b7, .inl (cs 0, 6, .inl S7_125h))], (w_X10 ad (0) cs en S8_125h)]) (Wc' := [[(b1, .inl (cs 0, 8, .inl q140.2.1))], [(b2, .inl (cs 0, 24, .inl q140.2.2.1))], [(b3, .inl (cs 0, 48, .inl q140.2.2.2.1))], [(b4, .inl (cs 0, 48, .inl S4_125h))], [(b5, .inl (cs 0, 40, .inl q140.2.2.2.2.1))], [(b6, .inl (cs 0, 32, .inl S6_125h))], [(b7, .inl (cs 0, 6, .inl q140.2.2.2.2.2.1))], (w_X10 ad (0) cs en q140.2.2.2.2.2.2)]) (is := [0, 1, 2, 3, 4, 5, 6, 7]) (js := []) ⟨hx, hb, hml, hown, hts⟩ (k_L_brings l dC dI cs ad en (b1) (b2) (b3) (b4) (b5) (b6) (b7) H.size S1_125h S2_125h S3_125h S4_125h S5_125h S6_125h S7_125h S8_125h (3 : Int32) v9_125 q140.1 q140.2.1 q140.2.2.1 q140.2.2.2.1 q140.2.2.2.2.1 q140.2.2.2.2.2.1 q140.2.2.2.2.2.2 gq140) (va_cwS 10 hts gL_acts_L_brings rfl rfl rfl cd_L_brings.2 ⟨Nat.le_of_ble_eq_true rfl, Nat.le_of_ble_eq_true rfl⟩) hK hP hD hS hA ⟨rfl, rfl, rfl, rfl, rfl, rfl⟩ (jn_nd (is := [0, 1, 2, 3, 4, 5, 6, 7]) hD rfl rfl) rfl rfl hl.1 (Nat.le_of_ble_eq_true rfl) dL_acts_140 ⟨Nat.le_of_ble_eq_true rfl, Nat.le_of_ble_eq_true rfl⟩ (fun H140 locs140 hP' hD' hS' => ?_)
    replace hS := hS'
    replace hP : va_P (dC, dI) vwCl (fl [[(b1, .inl (cs 0, 8, .inl q140.2.1))], [(b2, .inl (cs 0, 24, .inl q140.2.2.1))], [(b3, .inl (cs 0, 48, .inl q140.2.2.2.1))], [(b4, .inl (cs 0, 48, .inl S4_125h))], [(b5, .inl (cs 0, 40, .inl q140.2.2.2.2.1))], [(b6, .inl (cs 0, 32, .inl S6_125h))], [(b7, .inl (cs 0, 6, .inl q140.2.2.2.2.2.1))], (w_X10 ad (0) cs en q140.2.2.2.2.2.2)]) H140 := hP'
    replace hD : va_D A (fl [[(b1, .inl (cs 0, 8, .inl q140.2.1))], [(b2, .inl (cs 0, 24, .inl q140.2.2.1))], [(b3, .inl (cs 0, 48, .inl q140.2.2.2.1))], [(b4, .inl (cs 0, 48, .inl S4_125h))], [(b5, .inl (cs 0, 40, .inl q140.2.2.2.2.1))], [(b6, .inl (cs 0, 32, .inl S6_125h))], [(b7, .inl (cs 0, 6, .inl q140.2.2.2.2.2.1))], (w_X10 ad (0) cs en q140.2.2.2.2.2.2)]) := hD'
    clear hP' hD' hS'
    replace hR := gz_e hR
    obtain ⟨hn, hR⟩ := hR
    replace hR := Option.some.inj hR
    obtain ⟨e9, hR⟩ := Prod.mk.inj hR
    obtain ⟨eu1, hR⟩ := Prod.mk.inj hR
    obtain ⟨eu2, hR⟩ := Prod.mk.inj hR
    obtain ⟨eu3, hR⟩ := Prod.mk.inj hR
    obtain ⟨eu4, hR⟩ := Prod.mk.inj hR
    obtain ⟨eu5, hR⟩ := Prod.mk.inj hR
    obtain ⟨eu6, hR⟩ := Prod.mk.inj hR
    obtain ⟨eu7, hR⟩ := Prod.mk.inj hR
    have eu8 := hR
    replace hP : va_P (dC, dI) vwCl (fl [[(b1, .inl (cs 0, 8, .inl u1))], [(b2, .inl (cs 0, 24, .inl u2))], [(b3, .inl (cs 0, 48, .inl u3))], [(b4, .inl (cs 0, 48, .inl u4))], [(b5, .inl (cs 0, 40, .inl u5))], [(b6, .inl (cs 0, 32, .inl u6))], [(b7, .inl (cs 0, 6, .inl u7))], (w_X10 ad (0) cs en u8)]) H140 := by rw [← eu1, ← eu2, ← eu3, ← eu4, ← eu5, ← eu6, ← eu7, ← eu8]; exact hP
    replace hD : va_D A (fl [[(b1, .inl (cs 0, 8, .inl u1))], [(b2, .inl (cs 0, 24, .inl u2))], [(b3, .inl (cs 0, 48, .inl u3))], [(b4, .inl (cs 0, 48, .inl u4))], [(b5, .inl (cs 0, 40, .inl u5))], [(b6, .inl (cs 0, 32, .inl u6))], [(b7, .inl (cs 0, 6, .inl u7))], (w_X10 ad (0) cs en u8)]) := by rw [← eu1, ← eu2, ← eu3, ← eu4, ← eu5, ← eu6, ← eu7, ← eu8]; exact hD
    exact W.zret (ty := .boolean) hx hb hr hn (fun t ht hW => ⟨⟨_, (), rfl, e9, by rw [ht]; exact hP, va_K.moved hW.alike hK, hD⟩, hS.F ht⟩) hS.2.2 dL_acts_143
  have hB93 : ∀ (S1_93h : T1) (S2_93h : T1) (S3_93h : T1) (S4_93h : T1) (S5_93h : T1) (S6_93h : T1) (S7_93h : T1) (S8_93h : T5) (v9_93 : Int32) (H : Heap) (locs : List Loc) (ls : Array Slot), fL_acts_93 p8 S1_93h S2_93h S3_93h S4_93h S5_93h S6_93h S7_93h S8_93h v9_93 = some (r, u1, u2, u3, u4, u5, u6, u7, u8) → va_P (dC, dI) vwCl (fl [[(b1, .inl (cs 0, 8, .inl S1_93h))], [(b2, .inl (cs 0, 24, .inl S2_93h))], [(b3, .inl (cs 0, 48, .inl S3_93h))], [(b4, .inl (cs 0, 48, .inl S4_93h))], [(b5, .inl (cs 0, 40, .inl S5_93h))], [(b6, .inl (cs 0, 32, .inl S6_93h))], [(b7, .inl (cs 0, 6, .inl S7_93h))], (w_X10 ad (0) cs en S8_93h)]) H → va_D A (fl [[(b1, .inl (cs 0, 8, .inl S1_93h))], [(b2, .inl (cs 0, 24, .inl S2_93h))], [(b3, .inl (cs 0, 48, .inl S3_93h))], [(b4, .inl (cs 0, 48, .inl S4_93h))], [(b5, .inl (cs 0, 40, .inl S5_93h))], [(b6, .inl (cs 0, 32, .inl S6_93h))], [(b7, .inl (cs 0, 6, .inl S7_93h))], (w_X10 ad (0) cs en S8_93h)]) → va_S A s.heap H locs → lv_has ls 14 [(0, .ref (ad 0)), (1, .ref b1), (2, .ref b2), (3, .ref b3), (4, .ref b4), (5, .ref b5), (6, .ref b6), (7, .ref b7), (9, .int v9_93)] → W p l e (headSpec wsL_acts ({ frames := 7, cells := 0, slots := 0, locals := 171 } : Room)).room s m ([.ref (ad 0), .ref b1, .ref b2, .ref b3, .ref b4, .ref b5, .ref b6, .ref b7, .int p8] : List Value).toArray below meth c H locs 0 0 (MQ below (QI dC dI (tyL cs) A (fl [[(b1, .inl (cs 0, 8, .inl u1))], [(b2, .inl (cs 0, 24, .inl u2))], [(b3, .inl (cs 0, 48, .inl u3))], [(b4, .inl (cs 0, 48, .inl u4))], [(b5, .inl (cs 0, 40, .inl u5))], [(b6, .inl (cs 0, 32, .inl u6))], [(b7, .inl (cs 0, 6, .inl u7))], (w_X10 ad (0) cs en u8)]) r) ([.ref (ad 0), .ref b1, .ref b2, .ref b3, .ref b4, .ref b5, .ref b6, .ref b7, .int p8] : List Value).toArray s 0 0 A) (F0 m 93 ls []) := by
    intro S1_93h S2_93h S3_93h S4_93h S5_93h S6_93h S7_93h S8_93h v9_93 H locs ls hR hP hD hS hl
    refine lv_aload_n hx hb dL_acts_93 rfl (lv_at hl 0 rfl) ?_
    refine lv_aload_n hx hb dL_acts_94 rfl (lv_at hl 1 rfl) ?_
    refine lv_aload_n hx hb dL_acts_95 rfl (lv_at hl 2 rfl) ?_
    refine lv_aload_n hx hb dL_acts_96 rfl (lv_at hl 3 rfl) ?_
    refine lv_aload hx hb dL_acts_97 (lv_at hl 4 rfl) ?_
    refine lv_aload hx hb dL_acts_99 (lv_at hl 5 rfl) ?_
    refine lv_aload hx hb dL_acts_101 (lv_at hl 6 rfl) ?_
    refine lv_aload hx hb dL_acts_103 (lv_at hl 7 rfl) ?_
    refine lv_iconst (v := 2) hx hb dL_acts_105 ic_2 ?_
    refine lv_iload hx hb dL_acts_106 (lv_at hl 8 rfl) ?_
    replace hR := bd_e hR
    obtain ⟨q108, gq108, hR⟩ := hR
    refine cm_Si (As := [.ref (ad 0), .ref b1, .ref b2, .ref b3, .ref b4, .ref b5, .ref b6, .ref b7, .int (2 : Int32), .int v9_93]) (rest := []) (L := [[(b1, .inl (cs 0, 8, .inl S1_93h))], [(b2, .inl (cs 0, 24, .inl S2_93h))], [(b3, .inl (cs 0, 48, .inl S3_93h))], [(b4, .inl (cs 0, 48, .inl S4_93h))], [(b5, .inl (cs 0, 40, .inl S5_93h))], [(b6, .inl (cs 0, 32, .inl S6_93h))], [(b7, .inl (cs 0, 6, .inl S7_93h))], (w_X10 ad (0) cs en S8_93h)]) (L' := [[(b1, .inl (cs 0, 8, .inl q108.2.1))], [(b2, .inl (cs 0, 24, .inl q108.2.2.1))], [(b3, .inl (cs 0, 48, .inl q108.2.2.2.1))], [(b4, .inl (cs 0, 48, .inl S4_93h))], [(b5, .inl (cs 0, 40, .inl q108.2.2.2.2.1))], [(b6, .inl (cs 0, 32, .inl S6_93h))], [(b7, .inl (cs 0, 6, .inl q108.2.2.2.2.2.1))], (w_X10 ad (0) cs en q108.2.2.2.2.2.2)]) (Wc := [[(b1, .inl (cs 0, 8, .inl S1_93h))], [(b2, .inl (cs 0, 24, .inl S2_93h))], [(b3, .inl (cs 0, 48, .inl S3_93h))], [(b4, .inl (cs 0, 48, .inl S4_93h))], [(b5, .inl (cs 0, 40, .inl S5_93h))], [(b6, .inl (cs 0, 32, .inl S6_93h))], [(b7, .inl (cs 0, 6, .inl S7_93h))], (w_X10 ad (0) cs en S8_93h)]) (Wc' := [[(b1, .inl (cs 0, 8, .inl q108.2.1))], [(b2, .inl (cs 0, 24, .inl q108.2.2.1))], [(b3, .inl (cs 0, 48, .inl q108.2.2.2.1))], [(b4, .inl (cs 0, 48, .inl S4_93h))], [(b5, .inl (cs 0, 40, .inl q108.2.2.2.2.1))], [(b6, .inl (cs 0, 32, .inl S6_93h))], [(b7, .inl (cs 0, 6, .inl q108.2.2.2.2.2.1))], (w_X10 ad (0) cs en q108.2.2.2.2.2.2)]) (is := [0, 1, 2, 3, 4, 5, 6, 7]) (js := []) ⟨hx, hb, hml, hown, hts⟩ (k_L_brings l dC dI cs ad en (b1) (b2) (b3) (b4) (b5) (b6) (b7) H.size S1_93h S2_93h S3_93h S4_93h S5_93h S6_93h S7_93h S8_93h (2 : Int32) v9_93 q108.1 q108.2.1 q108.2.2.1 q108.2.2.2.1 q108.2.2.2.2.1 q108.2.2.2.2.2.1 q108.2.2.2.2.2.2 gq108) (va_cwS 10 hts gL_acts_L_brings rfl rfl rfl cd_L_brings.2 ⟨Nat.le_of_ble_eq_true rfl, Nat.le_of_ble_eq_true rfl⟩) hK hP hD hS hA ⟨rfl, rfl, rfl, rfl, rfl, rfl⟩ (jn_nd (is := [0, 1, 2, 3, 4, 5, 6, 7]) hD rfl rfl) rfl rfl hl.1 (Nat.le_of_ble_eq_true rfl) dL_acts_108 ⟨Nat.le_of_ble_eq_true rfl, Nat.le_of_ble_eq_true rfl⟩ (fun H108 locs108 hP' hD' hS' => ?_)
    replace hS := hS'
    replace hP : va_P (dC, dI) vwCl (fl [[(b1, .inl (cs 0, 8, .inl q108.2.1))], [(b2, .inl (cs 0, 24, .inl q108.2.2.1))], [(b3, .inl (cs 0, 48, .inl q108.2.2.2.1))], [(b4, .inl (cs 0, 48, .inl S4_93h))], [(b5, .inl (cs 0, 40, .inl q108.2.2.2.2.1))], [(b6, .inl (cs 0, 32, .inl S6_93h))], [(b7, .inl (cs 0, 6, .inl q108.2.2.2.2.2.1))], (w_X10 ad (0) cs en q108.2.2.2.2.2.2)]) H108 := hP'
    replace hD : va_D A (fl [[(b1, .inl (cs 0, 8, .inl q108.2.1))], [(b2, .inl (cs 0, 24, .inl q108.2.2.1))], [(b3, .inl (cs 0, 48, .inl q108.2.2.2.1))], [(b4, .inl (cs 0, 48, .inl S4_93h))], [(b5, .inl (cs 0, 40, .inl q108.2.2.2.2.1))], [(b6, .inl (cs 0, 32, .inl S6_93h))], [(b7, .inl (cs 0, 6, .inl q108.2.2.2.2.2.1))], (w_X10 ad (0) cs en q108.2.2.2.2.2.2)]) := hD'
    clear hP' hD' hS'
    replace hR := gz_e hR
    obtain ⟨hn, hR⟩ := hR
    replace hR := Option.some.inj hR
    obtain ⟨e9, hR⟩ := Prod.mk.inj hR
    obtain ⟨eu1, hR⟩ := Prod.mk.inj hR
    obtain ⟨eu2, hR⟩ := Prod.mk.inj hR
    obtain ⟨eu3, hR⟩ := Prod.mk.inj hR
    obtain ⟨eu4, hR⟩ := Prod.mk.inj hR
    obtain ⟨eu5, hR⟩ := Prod.mk.inj hR
    obtain ⟨eu6, hR⟩ := Prod.mk.inj hR
    obtain ⟨eu7, hR⟩ := Prod.mk.inj hR
    have eu8 := hR
    replace hP : va_P (dC, dI) vwCl (fl [[(b1, .inl (cs 0, 8, .inl u1))], [(b2, .inl (cs 0, 24, .inl u2))], [(b3, .inl (cs 0, 48, .inl u3))], [(b4, .inl (cs 0, 48, .inl u4))], [(b5, .inl (cs 0, 40, .inl u5))], [(b6, .inl (cs 0, 32, .inl u6))], [(b7, .inl (cs 0, 6, .inl u7))], (w_X10 ad (0) cs en u8)]) H108 := by rw [← eu1, ← eu2, ← eu3, ← eu4, ← eu5, ← eu6, ← eu7, ← eu8]; exact hP
    replace hD : va_D A (fl [[(b1, .inl (cs 0, 8, .inl u1))], [(b2, .inl (cs 0, 24, .inl u2))], [(b3, .inl (cs 0, 48, .inl u3))], [(b4, .inl (cs 0, 48, .inl u4))], [(b5, .inl (cs 0, 40, .inl u5))], [(b6, .inl (cs 0, 32, .inl u6))], [(b7, .inl (cs 0, 6, .inl u7))], (w_X10 ad (0) cs en u8)]) := by rw [← eu1, ← eu2, ← eu3, ← eu4, ← eu5, ← eu6, ← eu7, ← eu8]; exact hD
    exact W.zret (ty := .boolean) hx hb hr hn (fun t ht hW => ⟨⟨_, (), rfl, e9, by rw [ht]; exact hP, va_K.moved hW.alike hK, hD⟩, hS.F ht⟩) hS.2.2 dL_acts_111
  have hB62 : ∀ (S1_62h : T1) (S2_62h : T1) (S3_62h : T1) (S4_62h : T1) (S5_62h : T1) (S6_62h : T1) (S7_62h : T1) (S8_62h : T5) (v9_62 : Int32) (H : Heap) (locs : List Loc) (ls : Array Slot), fL_acts_62 p8 S1_62h S2_62h S3_62h S4_62h S5_62h S6_62h S7_62h S8_62h v9_62 = some (r, u1, u2, u3, u4, u5, u6, u7, u8) → va_P (dC, dI) vwCl (fl [[(b1, .inl (cs 0, 8, .inl S1_62h))], [(b2, .inl (cs 0, 24, .inl S2_62h))], [(b3, .inl (cs 0, 48, .inl S3_62h))], [(b4, .inl (cs 0, 48, .inl S4_62h))], [(b5, .inl (cs 0, 40, .inl S5_62h))], [(b6, .inl (cs 0, 32, .inl S6_62h))], [(b7, .inl (cs 0, 6, .inl S7_62h))], (w_X10 ad (0) cs en S8_62h)]) H → va_D A (fl [[(b1, .inl (cs 0, 8, .inl S1_62h))], [(b2, .inl (cs 0, 24, .inl S2_62h))], [(b3, .inl (cs 0, 48, .inl S3_62h))], [(b4, .inl (cs 0, 48, .inl S4_62h))], [(b5, .inl (cs 0, 40, .inl S5_62h))], [(b6, .inl (cs 0, 32, .inl S6_62h))], [(b7, .inl (cs 0, 6, .inl S7_62h))], (w_X10 ad (0) cs en S8_62h)]) → va_S A s.heap H locs → lv_has ls 14 [(0, .ref (ad 0)), (1, .ref b1), (2, .ref b2), (3, .ref b3), (4, .ref b4), (5, .ref b5), (6, .ref b6), (7, .ref b7), (9, .int v9_62)] → W p l e (headSpec wsL_acts ({ frames := 7, cells := 0, slots := 0, locals := 171 } : Room)).room s m ([.ref (ad 0), .ref b1, .ref b2, .ref b3, .ref b4, .ref b5, .ref b6, .ref b7, .int p8] : List Value).toArray below meth c H locs 0 0 (MQ below (QI dC dI (tyL cs) A (fl [[(b1, .inl (cs 0, 8, .inl u1))], [(b2, .inl (cs 0, 24, .inl u2))], [(b3, .inl (cs 0, 48, .inl u3))], [(b4, .inl (cs 0, 48, .inl u4))], [(b5, .inl (cs 0, 40, .inl u5))], [(b6, .inl (cs 0, 32, .inl u6))], [(b7, .inl (cs 0, 6, .inl u7))], (w_X10 ad (0) cs en u8)]) r) ([.ref (ad 0), .ref b1, .ref b2, .ref b3, .ref b4, .ref b5, .ref b6, .ref b7, .int p8] : List Value).toArray s 0 0 A) (F0 m 62 ls []) := by
    intro S1_62h S2_62h S3_62h S4_62h S5_62h S6_62h S7_62h S8_62h v9_62 H locs ls hR hP hD hS hl
    refine lv_aload_n hx hb dL_acts_62 rfl (lv_at hl 0 rfl) ?_
    refine lv_aload_n hx hb dL_acts_63 rfl (lv_at hl 1 rfl) ?_
    refine lv_aload_n hx hb dL_acts_64 rfl (lv_at hl 2 rfl) ?_
    refine lv_aload_n hx hb dL_acts_65 rfl (lv_at hl 3 rfl) ?_
    refine lv_aload hx hb dL_acts_66 (lv_at hl 4 rfl) ?_
    refine lv_aload hx hb dL_acts_68 (lv_at hl 5 rfl) ?_
    refine lv_aload hx hb dL_acts_70 (lv_at hl 6 rfl) ?_
    refine lv_aload hx hb dL_acts_72 (lv_at hl 7 rfl) ?_
    refine lv_iconst (v := 1) hx hb dL_acts_74 ic_1 ?_
    refine lv_iload hx hb dL_acts_75 (lv_at hl 8 rfl) ?_
    replace hR := bd_e hR
    obtain ⟨q77, gq77, hR⟩ := hR
    refine cm_Si (As := [.ref (ad 0), .ref b1, .ref b2, .ref b3, .ref b4, .ref b5, .ref b6, .ref b7, .int (1 : Int32), .int v9_62]) (rest := []) (L := [[(b1, .inl (cs 0, 8, .inl S1_62h))], [(b2, .inl (cs 0, 24, .inl S2_62h))], [(b3, .inl (cs 0, 48, .inl S3_62h))], [(b4, .inl (cs 0, 48, .inl S4_62h))], [(b5, .inl (cs 0, 40, .inl S5_62h))], [(b6, .inl (cs 0, 32, .inl S6_62h))], [(b7, .inl (cs 0, 6, .inl S7_62h))], (w_X10 ad (0) cs en S8_62h)]) (L' := [[(b1, .inl (cs 0, 8, .inl q77.2.1))], [(b2, .inl (cs 0, 24, .inl q77.2.2.1))], [(b3, .inl (cs 0, 48, .inl q77.2.2.2.1))], [(b4, .inl (cs 0, 48, .inl S4_62h))], [(b5, .inl (cs 0, 40, .inl q77.2.2.2.2.1))], [(b6, .inl (cs 0, 32, .inl S6_62h))], [(b7, .inl (cs 0, 6, .inl q77.2.2.2.2.2.1))], (w_X10 ad (0) cs en q77.2.2.2.2.2.2)]) (Wc := [[(b1, .inl (cs 0, 8, .inl S1_62h))], [(b2, .inl (cs 0, 24, .inl S2_62h))], [(b3, .inl (cs 0, 48, .inl S3_62h))], [(b4, .inl (cs 0, 48, .inl S4_62h))], [(b5, .inl (cs 0, 40, .inl S5_62h))], [(b6, .inl (cs 0, 32, .inl S6_62h))], [(b7, .inl (cs 0, 6, .inl S7_62h))], (w_X10 ad (0) cs en S8_62h)]) (Wc' := [[(b1, .inl (cs 0, 8, .inl q77.2.1))], [(b2, .inl (cs 0, 24, .inl q77.2.2.1))], [(b3, .inl (cs 0, 48, .inl q77.2.2.2.1))], [(b4, .inl (cs 0, 48, .inl S4_62h))], [(b5, .inl (cs 0, 40, .inl q77.2.2.2.2.1))], [(b6, .inl (cs 0, 32, .inl S6_62h))], [(b7, .inl (cs 0, 6, .inl q77.2.2.2.2.2.1))], (w_X10 ad (0) cs en q77.2.2.2.2.2.2)]) (is := [0, 1, 2, 3, 4, 5, 6, 7]) (js := []) ⟨hx, hb, hml, hown, hts⟩ (k_L_brings l dC dI cs ad en (b1) (b2) (b3) (b4) (b5) (b6) (b7) H.size S1_62h S2_62h S3_62h S4_62h S5_62h S6_62h S7_62h S8_62h (1 : Int32) v9_62 q77.1 q77.2.1 q77.2.2.1 q77.2.2.2.1 q77.2.2.2.2.1 q77.2.2.2.2.2.1 q77.2.2.2.2.2.2 gq77) (va_cwS 10 hts gL_acts_L_brings rfl rfl rfl cd_L_brings.2 ⟨Nat.le_of_ble_eq_true rfl, Nat.le_of_ble_eq_true rfl⟩) hK hP hD hS hA ⟨rfl, rfl, rfl, rfl, rfl, rfl⟩ (jn_nd (is := [0, 1, 2, 3, 4, 5, 6, 7]) hD rfl rfl) rfl rfl hl.1 (Nat.le_of_ble_eq_true rfl) dL_acts_77 ⟨Nat.le_of_ble_eq_true rfl, Nat.le_of_ble_eq_true rfl⟩ (fun H77 locs77 hP' hD' hS' => ?_)
    replace hS := hS'
    replace hP : va_P (dC, dI) vwCl (fl [[(b1, .inl (cs 0, 8, .inl q77.2.1))], [(b2, .inl (cs 0, 24, .inl q77.2.2.1))], [(b3, .inl (cs 0, 48, .inl q77.2.2.2.1))], [(b4, .inl (cs 0, 48, .inl S4_62h))], [(b5, .inl (cs 0, 40, .inl q77.2.2.2.2.1))], [(b6, .inl (cs 0, 32, .inl S6_62h))], [(b7, .inl (cs 0, 6, .inl q77.2.2.2.2.2.1))], (w_X10 ad (0) cs en q77.2.2.2.2.2.2)]) H77 := hP'
    replace hD : va_D A (fl [[(b1, .inl (cs 0, 8, .inl q77.2.1))], [(b2, .inl (cs 0, 24, .inl q77.2.2.1))], [(b3, .inl (cs 0, 48, .inl q77.2.2.2.1))], [(b4, .inl (cs 0, 48, .inl S4_62h))], [(b5, .inl (cs 0, 40, .inl q77.2.2.2.2.1))], [(b6, .inl (cs 0, 32, .inl S6_62h))], [(b7, .inl (cs 0, 6, .inl q77.2.2.2.2.2.1))], (w_X10 ad (0) cs en q77.2.2.2.2.2.2)]) := hD'
    clear hP' hD' hS'
    replace hR := gz_e hR
    obtain ⟨hn, hR⟩ := hR
    replace hR := Option.some.inj hR
    obtain ⟨e9, hR⟩ := Prod.mk.inj hR
    obtain ⟨eu1, hR⟩ := Prod.mk.inj hR
    obtain ⟨eu2, hR⟩ := Prod.mk.inj hR
    obtain ⟨eu3, hR⟩ := Prod.mk.inj hR
    obtain ⟨eu4, hR⟩ := Prod.mk.inj hR
    obtain ⟨eu5, hR⟩ := Prod.mk.inj hR
    obtain ⟨eu6, hR⟩ := Prod.mk.inj hR
    obtain ⟨eu7, hR⟩ := Prod.mk.inj hR
    have eu8 := hR
    replace hP : va_P (dC, dI) vwCl (fl [[(b1, .inl (cs 0, 8, .inl u1))], [(b2, .inl (cs 0, 24, .inl u2))], [(b3, .inl (cs 0, 48, .inl u3))], [(b4, .inl (cs 0, 48, .inl u4))], [(b5, .inl (cs 0, 40, .inl u5))], [(b6, .inl (cs 0, 32, .inl u6))], [(b7, .inl (cs 0, 6, .inl u7))], (w_X10 ad (0) cs en u8)]) H77 := by rw [← eu1, ← eu2, ← eu3, ← eu4, ← eu5, ← eu6, ← eu7, ← eu8]; exact hP
    replace hD : va_D A (fl [[(b1, .inl (cs 0, 8, .inl u1))], [(b2, .inl (cs 0, 24, .inl u2))], [(b3, .inl (cs 0, 48, .inl u3))], [(b4, .inl (cs 0, 48, .inl u4))], [(b5, .inl (cs 0, 40, .inl u5))], [(b6, .inl (cs 0, 32, .inl u6))], [(b7, .inl (cs 0, 6, .inl u7))], (w_X10 ad (0) cs en u8)]) := by rw [← eu1, ← eu2, ← eu3, ← eu4, ← eu5, ← eu6, ← eu7, ← eu8]; exact hD
    exact W.zret (ty := .boolean) hx hb hr hn (fun t ht hW => ⟨⟨_, (), rfl, e9, by rw [ht]; exact hP, va_K.moved hW.alike hK, hD⟩, hS.F ht⟩) hS.2.2 dL_acts_80
  have hB31 : ∀ (S1_31h : T1) (S2_31h : T1) (S3_31h : T1) (S4_31h : T1) (S5_31h : T1) (S6_31h : T1) (S7_31h : T1) (S8_31h : T5) (v9_31 : Int32) (H : Heap) (locs : List Loc) (ls : Array Slot), fL_acts_31 p8 S1_31h S2_31h S3_31h S4_31h S5_31h S6_31h S7_31h S8_31h v9_31 = some (r, u1, u2, u3, u4, u5, u6, u7, u8) → va_P (dC, dI) vwCl (fl [[(b1, .inl (cs 0, 8, .inl S1_31h))], [(b2, .inl (cs 0, 24, .inl S2_31h))], [(b3, .inl (cs 0, 48, .inl S3_31h))], [(b4, .inl (cs 0, 48, .inl S4_31h))], [(b5, .inl (cs 0, 40, .inl S5_31h))], [(b6, .inl (cs 0, 32, .inl S6_31h))], [(b7, .inl (cs 0, 6, .inl S7_31h))], (w_X10 ad (0) cs en S8_31h)]) H → va_D A (fl [[(b1, .inl (cs 0, 8, .inl S1_31h))], [(b2, .inl (cs 0, 24, .inl S2_31h))], [(b3, .inl (cs 0, 48, .inl S3_31h))], [(b4, .inl (cs 0, 48, .inl S4_31h))], [(b5, .inl (cs 0, 40, .inl S5_31h))], [(b6, .inl (cs 0, 32, .inl S6_31h))], [(b7, .inl (cs 0, 6, .inl S7_31h))], (w_X10 ad (0) cs en S8_31h)]) → va_S A s.heap H locs → lv_has ls 14 [(0, .ref (ad 0)), (1, .ref b1), (2, .ref b2), (3, .ref b3), (4, .ref b4), (5, .ref b5), (6, .ref b6), (7, .ref b7), (9, .int v9_31)] → W p l e (headSpec wsL_acts ({ frames := 7, cells := 0, slots := 0, locals := 171 } : Room)).room s m ([.ref (ad 0), .ref b1, .ref b2, .ref b3, .ref b4, .ref b5, .ref b6, .ref b7, .int p8] : List Value).toArray below meth c H locs 0 0 (MQ below (QI dC dI (tyL cs) A (fl [[(b1, .inl (cs 0, 8, .inl u1))], [(b2, .inl (cs 0, 24, .inl u2))], [(b3, .inl (cs 0, 48, .inl u3))], [(b4, .inl (cs 0, 48, .inl u4))], [(b5, .inl (cs 0, 40, .inl u5))], [(b6, .inl (cs 0, 32, .inl u6))], [(b7, .inl (cs 0, 6, .inl u7))], (w_X10 ad (0) cs en u8)]) r) ([.ref (ad 0), .ref b1, .ref b2, .ref b3, .ref b4, .ref b5, .ref b6, .ref b7, .int p8] : List Value).toArray s 0 0 A) (F0 m 31 ls []) := by
    intro S1_31h S2_31h S3_31h S4_31h S5_31h S6_31h S7_31h S8_31h v9_31 H locs ls hR hP hD hS hl
    refine lv_aload_n hx hb dL_acts_31 rfl (lv_at hl 0 rfl) ?_
    refine lv_aload_n hx hb dL_acts_32 rfl (lv_at hl 1 rfl) ?_
    refine lv_aload_n hx hb dL_acts_33 rfl (lv_at hl 2 rfl) ?_
    refine lv_aload_n hx hb dL_acts_34 rfl (lv_at hl 3 rfl) ?_
    refine lv_aload hx hb dL_acts_35 (lv_at hl 4 rfl) ?_
    refine lv_aload hx hb dL_acts_37 (lv_at hl 5 rfl) ?_
    refine lv_aload hx hb dL_acts_39 (lv_at hl 6 rfl) ?_
    refine lv_aload hx hb dL_acts_41 (lv_at hl 7 rfl) ?_
    refine lv_iconst (v := 0) hx hb dL_acts_43 ic_0 ?_
    refine lv_iload hx hb dL_acts_44 (lv_at hl 8 rfl) ?_
    replace hR := bd_e hR
    obtain ⟨q46, gq46, hR⟩ := hR
    refine cm_Si (As := [.ref (ad 0), .ref b1, .ref b2, .ref b3, .ref b4, .ref b5, .ref b6, .ref b7, .int (0 : Int32), .int v9_31]) (rest := []) (L := [[(b1, .inl (cs 0, 8, .inl S1_31h))], [(b2, .inl (cs 0, 24, .inl S2_31h))], [(b3, .inl (cs 0, 48, .inl S3_31h))], [(b4, .inl (cs 0, 48, .inl S4_31h))], [(b5, .inl (cs 0, 40, .inl S5_31h))], [(b6, .inl (cs 0, 32, .inl S6_31h))], [(b7, .inl (cs 0, 6, .inl S7_31h))], (w_X10 ad (0) cs en S8_31h)]) (L' := [[(b1, .inl (cs 0, 8, .inl q46.2.1))], [(b2, .inl (cs 0, 24, .inl q46.2.2.1))], [(b3, .inl (cs 0, 48, .inl q46.2.2.2.1))], [(b4, .inl (cs 0, 48, .inl S4_31h))], [(b5, .inl (cs 0, 40, .inl q46.2.2.2.2.1))], [(b6, .inl (cs 0, 32, .inl S6_31h))], [(b7, .inl (cs 0, 6, .inl q46.2.2.2.2.2.1))], (w_X10 ad (0) cs en q46.2.2.2.2.2.2)]) (Wc := [[(b1, .inl (cs 0, 8, .inl S1_31h))], [(b2, .inl (cs 0, 24, .inl S2_31h))], [(b3, .inl (cs 0, 48, .inl S3_31h))], [(b4, .inl (cs 0, 48, .inl S4_31h))], [(b5, .inl (cs 0, 40, .inl S5_31h))], [(b6, .inl (cs 0, 32, .inl S6_31h))], [(b7, .inl (cs 0, 6, .inl S7_31h))], (w_X10 ad (0) cs en S8_31h)]) (Wc' := [[(b1, .inl (cs 0, 8, .inl q46.2.1))], [(b2, .inl (cs 0, 24, .inl q46.2.2.1))], [(b3, .inl (cs 0, 48, .inl q46.2.2.2.1))], [(b4, .inl (cs 0, 48, .inl S4_31h))], [(b5, .inl (cs 0, 40, .inl q46.2.2.2.2.1))], [(b6, .inl (cs 0, 32, .inl S6_31h))], [(b7, .inl (cs 0, 6, .inl q46.2.2.2.2.2.1))], (w_X10 ad (0) cs en q46.2.2.2.2.2.2)]) (is := [0, 1, 2, 3, 4, 5, 6, 7]) (js := []) ⟨hx, hb, hml, hown, hts⟩ (k_L_brings l dC dI cs ad en (b1) (b2) (b3) (b4) (b5) (b6) (b7) H.size S1_31h S2_31h S3_31h S4_31h S5_31h S6_31h S7_31h S8_31h (0 : Int32) v9_31 q46.1 q46.2.1 q46.2.2.1 q46.2.2.2.1 q46.2.2.2.2.1 q46.2.2.2.2.2.1 q46.2.2.2.2.2.2 gq46) (va_cwS 10 hts gL_acts_L_brings rfl rfl rfl cd_L_brings.2 ⟨Nat.le_of_ble_eq_true rfl, Nat.le_of_ble_eq_true rfl⟩) hK hP hD hS hA ⟨rfl, rfl, rfl, rfl, rfl, rfl⟩ (jn_nd (is := [0, 1, 2, 3, 4, 5, 6, 7]) hD rfl rfl) rfl rfl hl.1 (Nat.le_of_ble_eq_true rfl) dL_acts_46 ⟨Nat.le_of_ble_eq_true rfl, Nat.le_of_ble_eq_true rfl⟩ (fun H46 locs46 hP' hD' hS' => ?_)
    replace hS := hS'
    replace hP : va_P (dC, dI) vwCl (fl [[(b1, .inl (cs 0, 8, .inl q46.2.1))], [(b2, .inl (cs 0, 24, .inl q46.2.2.1))], [(b3, .inl (cs 0, 48, .inl q46.2.2.2.1))], [(b4, .inl (cs 0, 48, .inl S4_31h))], [(b5, .inl (cs 0, 40, .inl q46.2.2.2.2.1))], [(b6, .inl (cs 0, 32, .inl S6_31h))], [(b7, .inl (cs 0, 6, .inl q46.2.2.2.2.2.1))], (w_X10 ad (0) cs en q46.2.2.2.2.2.2)]) H46 := hP'
    replace hD : va_D A (fl [[(b1, .inl (cs 0, 8, .inl q46.2.1))], [(b2, .inl (cs 0, 24, .inl q46.2.2.1))], [(b3, .inl (cs 0, 48, .inl q46.2.2.2.1))], [(b4, .inl (cs 0, 48, .inl S4_31h))], [(b5, .inl (cs 0, 40, .inl q46.2.2.2.2.1))], [(b6, .inl (cs 0, 32, .inl S6_31h))], [(b7, .inl (cs 0, 6, .inl q46.2.2.2.2.2.1))], (w_X10 ad (0) cs en q46.2.2.2.2.2.2)]) := hD'
    clear hP' hD' hS'
    replace hR := gz_e hR
    obtain ⟨hn, hR⟩ := hR
    replace hR := Option.some.inj hR
    obtain ⟨e9, hR⟩ := Prod.mk.inj hR
    obtain ⟨eu1, hR⟩ := Prod.mk.inj hR
    obtain ⟨eu2, hR⟩ := Prod.mk.inj hR
    obtain ⟨eu3, hR⟩ := Prod.mk.inj hR
    obtain ⟨eu4, hR⟩ := Prod.mk.inj hR
    obtain ⟨eu5, hR⟩ := Prod.mk.inj hR
    obtain ⟨eu6, hR⟩ := Prod.mk.inj hR
    obtain ⟨eu7, hR⟩ := Prod.mk.inj hR
    have eu8 := hR
    replace hP : va_P (dC, dI) vwCl (fl [[(b1, .inl (cs 0, 8, .inl u1))], [(b2, .inl (cs 0, 24, .inl u2))], [(b3, .inl (cs 0, 48, .inl u3))], [(b4, .inl (cs 0, 48, .inl u4))], [(b5, .inl (cs 0, 40, .inl u5))], [(b6, .inl (cs 0, 32, .inl u6))], [(b7, .inl (cs 0, 6, .inl u7))], (w_X10 ad (0) cs en u8)]) H46 := by rw [← eu1, ← eu2, ← eu3, ← eu4, ← eu5, ← eu6, ← eu7, ← eu8]; exact hP
    replace hD : va_D A (fl [[(b1, .inl (cs 0, 8, .inl u1))], [(b2, .inl (cs 0, 24, .inl u2))], [(b3, .inl (cs 0, 48, .inl u3))], [(b4, .inl (cs 0, 48, .inl u4))], [(b5, .inl (cs 0, 40, .inl u5))], [(b6, .inl (cs 0, 32, .inl u6))], [(b7, .inl (cs 0, 6, .inl u7))], (w_X10 ad (0) cs en u8)]) := by rw [← eu1, ← eu2, ← eu3, ← eu4, ← eu5, ← eu6, ← eu7, ← eu8]; exact hD
    exact W.zret (ty := .boolean) hx hb hr hn (fun t ht hW => ⟨⟨_, (), rfl, e9, by rw [ht]; exact hP, va_K.moved hW.alike hK, hD⟩, hS.F ht⟩) hS.2.2 dL_acts_49
  refine lv_iload hx hb dL_acts_0 (lv_at hl 8 rfl) ?_
  refine lv_iconst (v := 5) hx hb dL_acts_2 ic_5 ?_
  refine lv_ishr hx hb dL_acts_3 ?_
  refine lv_ldc (v := 10000000) hx hb hown (hts (.constant RL 74 (10000000)) (List.mem_of_getElem? (i := 1) rfl)) dL_acts_4 ?_
  replace hR := bd_e hR
  obtain ⟨q6, gq6, hR⟩ := hR
  refine cm_Si (As := [.int (p8 >>> (5 &&& 31)), .int (10000000 : Int32)]) (rest := []) (L := [[(b1, .inl (cs 0, 8, .inl S1))], [(b2, .inl (cs 0, 24, .inl S2))], [(b3, .inl (cs 0, 48, .inl S3))], [(b4, .inl (cs 0, 48, .inl S4))], [(b5, .inl (cs 0, 40, .inl S5))], [(b6, .inl (cs 0, 32, .inl S6))], [(b7, .inl (cs 0, 6, .inl S7))], (w_X10 ad (0) cs en S8)]) (L' := [[(b1, .inl (cs 0, 8, .inl S1))], [(b2, .inl (cs 0, 24, .inl S2))], [(b3, .inl (cs 0, 48, .inl S3))], [(b4, .inl (cs 0, 48, .inl S4))], [(b5, .inl (cs 0, 40, .inl S5))], [(b6, .inl (cs 0, 32, .inl S6))], [(b7, .inl (cs 0, 6, .inl S7))], (w_X10 ad (0) cs en S8)]) (Wc := []) (Wc' := []) (is := []) (js := [0, 1, 2, 3, 4, 5, 6, 7]) ⟨hx, hb, hml, hown, hts⟩ (k_L_low l dC dI cs ad s.heap.size (p8 >>> (5 &&& 31)) (10000000 : Int32) q6 gq6) (va_cwS 2 hts gL_acts_L_low rfl rfl rfl cd_L_low.2 ⟨Nat.le_of_ble_eq_true rfl, Nat.le_of_ble_eq_true rfl⟩) hK hP hD hS hA ⟨rfl, rfl, rfl, rfl, rfl, rfl⟩ (jn_nd (is := []) hD rfl rfl) rfl rfl hl.1 (Nat.le_of_ble_eq_true rfl) dL_acts_6 ⟨Nat.le_of_ble_eq_true rfl, Nat.le_of_ble_eq_true rfl⟩ (fun H6 locs6 hP' hD' hS' => ?_)
  replace hS := hS'
  replace hP : va_P (dC, dI) vwCl (fl [[(b1, .inl (cs 0, 8, .inl S1))], [(b2, .inl (cs 0, 24, .inl S2))], [(b3, .inl (cs 0, 48, .inl S3))], [(b4, .inl (cs 0, 48, .inl S4))], [(b5, .inl (cs 0, 40, .inl S5))], [(b6, .inl (cs 0, 32, .inl S6))], [(b7, .inl (cs 0, 6, .inl S7))], (w_X10 ad (0) cs en S8)]) H6 := hP'
  replace hD : va_D A (fl [[(b1, .inl (cs 0, 8, .inl S1))], [(b2, .inl (cs 0, 24, .inl S2))], [(b3, .inl (cs 0, 48, .inl S3))], [(b4, .inl (cs 0, 48, .inl S4))], [(b5, .inl (cs 0, 40, .inl S5))], [(b6, .inl (cs 0, 32, .inl S6))], [(b7, .inl (cs 0, 6, .inl S7))], (w_X10 ad (0) cs en S8)]) := hD'
  clear hP' hD' hS'
  refine lv_istore (lv' := [(9, .int q6), (0, .ref (ad 0)), (1, .ref b1), (2, .ref b2), (3, .ref b3), (4, .ref b4), (5, .ref b5), (6, .ref b6), (7, .ref b7), (8, .int p8)]) hx hb dL_acts_9 hl (Nat.le_of_ble_eq_true rfl) rfl (fun ls hl => ?_)
  refine lv_iload hx hb dL_acts_11 (lv_at hl 9 rfl) ?_
  refine lv_bipush (v := 30) hx hb dL_acts_13 bp_30 ?_
  replace hR := bd_e hR
  obtain ⟨q15, gq15, hR⟩ := hR
  refine cm_Si (As := [.int p8, .int (30 : Int32)]) (rest := []) (L := [[(b1, .inl (cs 0, 8, .inl S1))], [(b2, .inl (cs 0, 24, .inl S2))], [(b3, .inl (cs 0, 48, .inl S3))], [(b4, .inl (cs 0, 48, .inl S4))], [(b5, .inl (cs 0, 40, .inl S5))], [(b6, .inl (cs 0, 32, .inl S6))], [(b7, .inl (cs 0, 6, .inl S7))], (w_X10 ad (0) cs en S8)]) (L' := [[(b1, .inl (cs 0, 8, .inl S1))], [(b2, .inl (cs 0, 24, .inl S2))], [(b3, .inl (cs 0, 48, .inl S3))], [(b4, .inl (cs 0, 48, .inl S4))], [(b5, .inl (cs 0, 40, .inl S5))], [(b6, .inl (cs 0, 32, .inl S6))], [(b7, .inl (cs 0, 6, .inl S7))], (w_X10 ad (0) cs en S8)]) (Wc := []) (Wc' := []) (is := []) (js := [0, 1, 2, 3, 4, 5, 6, 7]) ⟨hx, hb, hml, hown, hts⟩ (k_L_low l dC dI cs ad H6.size p8 (30 : Int32) q15 gq15) (va_cwS 2 hts gL_acts_L_low rfl rfl rfl cd_L_low.2 ⟨Nat.le_of_ble_eq_true rfl, Nat.le_of_ble_eq_true rfl⟩) hK hP hD hS hA ⟨rfl, rfl, rfl, rfl, rfl, rfl⟩ (jn_nd (is := []) hD rfl rfl) rfl rfl hl.1 (Nat.le_of_ble_eq_true rfl) dL_acts_15 ⟨Nat.le_of_ble_eq_true rfl, Nat.le_of_ble_eq_true rfl⟩ (fun H15 locs15 hP' hD' hS' => ?_)
  replace hS := hS'
  replace hP : va_P (dC, dI) vwCl (fl [[(b1, .inl (cs 0, 8, .inl S1))], [(b2, .inl (cs 0, 24, .inl S2))], [(b3, .inl (cs 0, 48, .inl S3))], [(b4, .inl (cs 0, 48, .inl S4))], [(b5, .inl (cs 0, 40, .inl S5))], [(b6, .inl (cs 0, 32, .inl S6))], [(b7, .inl (cs 0, 6, .inl S7))], (w_X10 ad (0) cs en S8)]) H15 := hP'
  replace hD : va_D A (fl [[(b1, .inl (cs 0, 8, .inl S1))], [(b2, .inl (cs 0, 24, .inl S2))], [(b3, .inl (cs 0, 48, .inl S3))], [(b4, .inl (cs 0, 48, .inl S4))], [(b5, .inl (cs 0, 40, .inl S5))], [(b6, .inl (cs 0, 32, .inl S6))], [(b7, .inl (cs 0, 6, .inl S7))], (w_X10 ad (0) cs en S8)]) := hD'
  clear hP' hD' hS'
  refine lv_istore (lv' := [(10, .int q15), (9, .int q6), (0, .ref (ad 0)), (1, .ref b1), (2, .ref b2), (3, .ref b3), (4, .ref b4), (5, .ref b5), (6, .ref b6), (7, .ref b7), (8, .int p8)]) hx hb dL_acts_18 hl (Nat.le_of_ble_eq_true rfl) rfl (fun ls hl => ?_)
  refine lv_iload hx hb dL_acts_20 (lv_at hl 0 rfl) ?_
  refine lv_if_eq (tgt := 31) hx hb dL_acts_22 (by decide) (fun c22 => ?_) (fun c22 => ?_)
  · replace hR := it_t hR c22
    exact hB31 S1 S2 S3 S4 S5 S6 S7 S8 q6 H15 _ ls hR hP hD hS (lv_sub hl [2, 3, 4, 5, 6, 7, 8, 9, 1] rfl)
  · replace hR := it_f hR c22
    refine lv_aload_n hx hb dL_acts_25 rfl (lv_at hl 3 rfl) ?_
    refine lv_iconst (v := 0) hx hb dL_acts_26 ic_0 ?_
    refine va_iald hx hb hK hP 0 0 rfl rfl vi_0_8 dL_acts_27 ?_
    refine lv_if_ne (tgt := 50) hx hb dL_acts_28 (by decide) (fun c28 => ?_) (fun c28 => ?_)
    · replace hR := it_f hR c28
      refine lv_iload hx hb dL_acts_50 (lv_at hl 0 rfl) ?_
      refine lv_iconst (v := 5) hx hb dL_acts_52 ic_5 ?_
      refine lv_icmp_lt (tgt := 62) hx hb dL_acts_53 (by decide) (fun c53 => ?_) (fun c53 => ?_)
      · replace hR := it_t hR c53
        exact hB62 S1 S2 S3 S4 S5 S6 S7 S8 q6 H15 _ ls hR hP hD hS (lv_sub hl [2, 3, 4, 5, 6, 7, 8, 9, 1] rfl)
      · replace hR := it_f hR c53
        refine lv_aload_n hx hb dL_acts_56 rfl (lv_at hl 3 rfl) ?_
        refine lv_iconst (v := 1) hx hb dL_acts_57 ic_1 ?_
        refine va_iald hx hb hK hP 0 0 rfl rfl vi_1_8 dL_acts_58 ?_
        refine lv_if_ne (tgt := 81) hx hb dL_acts_59 (by decide) (fun c59 => ?_) (fun c59 => ?_)
        · replace hR := it_f hR c59
          refine lv_iload hx hb dL_acts_81 (lv_at hl 0 rfl) ?_
          refine lv_iconst (v := 5) hx hb dL_acts_83 ic_5 ?_
          refine lv_icmp_eq (tgt := 93) hx hb dL_acts_84 (by decide) (fun c84 => ?_) (fun c84 => ?_)
          · replace hR := it_t hR c84
            exact hB93 S1 S2 S3 S4 S5 S6 S7 S8 q6 H15 _ ls hR hP hD hS (lv_sub hl [2, 3, 4, 5, 6, 7, 8, 9, 1] rfl)
          · replace hR := it_f hR c84
            refine lv_aload_n hx hb dL_acts_87 rfl (lv_at hl 3 rfl) ?_
            refine lv_iconst (v := 2) hx hb dL_acts_88 ic_2 ?_
            refine va_iald hx hb hK hP 0 0 rfl rfl vi_2_8 dL_acts_89 ?_
            refine lv_if_ne (tgt := 112) hx hb dL_acts_90 (by decide) (fun c90 => ?_) (fun c90 => ?_)
            · replace hR := it_f hR c90
              refine lv_iload hx hb dL_acts_112 (lv_at hl 0 rfl) ?_
              refine lv_bipush (v := 6) hx hb dL_acts_114 bp_6 ?_
              refine lv_icmp_eq (tgt := 125) hx hb dL_acts_116 (by decide) (fun c116 => ?_) (fun c116 => ?_)
              · replace hR := it_t hR c116
                exact hB125 S1 S2 S3 S4 S5 S6 S7 S8 q6 H15 _ ls hR hP hD hS (lv_sub hl [2, 3, 4, 5, 6, 7, 8, 9, 1] rfl)
              · replace hR := it_f hR c116
                refine lv_aload_n hx hb dL_acts_119 rfl (lv_at hl 3 rfl) ?_
                refine lv_iconst (v := 3) hx hb dL_acts_120 ic_3 ?_
                refine va_iald hx hb hK hP 0 0 rfl rfl vi_3_8 dL_acts_121 ?_
                refine lv_if_ne (tgt := 144) hx hb dL_acts_122 (by decide) (fun c122 => ?_) (fun c122 => ?_)
                · replace hR := it_f hR c122
                  refine lv_iload hx hb dL_acts_144 (lv_at hl 0 rfl) ?_
                  refine lv_bipush (v := 16) hx hb dL_acts_146 bp_16 ?_
                  refine lv_icmp_ge (tgt := 201) hx hb dL_acts_148 (by decide) (fun c148 => ?_) (fun c148 => ?_)
                  · replace hR := it_t hR c148
                    refine lv_iload hx hb dL_acts_201 (lv_at hl 0 rfl) ?_
                    refine lv_bipush (v := 23) hx hb dL_acts_203 bp_23 ?_
                    refine lv_icmp_ge (tgt := 256) hx hb dL_acts_205 (by decide) (fun c205 => ?_) (fun c205 => ?_)
                    · replace hR := it_t hR c205
                      refine lv_iload hx hb dL_acts_256 (lv_at hl 0 rfl) ?_
                      refine lv_bipush (v := 27) hx hb dL_acts_258 bp_27 ?_
                      refine lv_icmp_ge (tgt := 275) hx hb dL_acts_260 (by decide) (fun c260 => ?_) (fun c260 => ?_)
                      · replace hR := it_t hR c260
                        refine lv_iload hx hb dL_acts_275 (lv_at hl 0 rfl) ?_
                        refine lv_bipush (v := 29) hx hb dL_acts_277 bp_29 ?_
                        refine lv_icmp_ge (tgt := 385) hx hb dL_acts_279 (by decide) (fun c279 => ?_) (fun c279 => ?_)
                        · replace hR := it_t hR c279
                          refine lv_iload hx hb dL_acts_385 (lv_at hl 1 rfl) ?_
                          refine lv_iconst (v := 3) hx hb dL_acts_387 ic_3 ?_
                          refine lv_irem hx hb dL_acts_388 (by decide) ?_
                          refine lv_istore (lv' := [(11, .int (q6 - q6 / 3 * 3)), (10, .int q15), (9, .int q6), (0, .ref (ad 0)), (1, .ref b1), (2, .ref b2), (3, .ref b3), (4, .ref b4), (5, .ref b5), (6, .ref b6), (7, .ref b7), (8, .int p8)]) hx hb dL_acts_389 hl (Nat.le_of_ble_eq_true rfl) rfl (fun ls hl => ?_)
                          refine lv_aload_n hx hb dL_acts_391 rfl (lv_at hl 4 rfl) ?_
                          refine lv_iconst (v := 5) hx hb dL_acts_392 ic_5 ?_
                          refine lv_iload hx hb dL_acts_393 (lv_at hl 0 rfl) ?_
                          refine lv_iadd hx hb dL_acts_395 ?_
                          replace hR := gi_e hR
                          obtain ⟨i396, hR⟩ := hR
                          refine va_iald hx hb hK hP 0 0 rfl rfl i396 dL_acts_396 ?_
                          replace hR := bn_e hR
                          obtain ⟨x397, ex397, hR⟩ := hR
                          refine tp_g ex397 ?_
                          refine lv_istore (lv' := [(12, .int x397), (11, .int (q6 - q6 / 3 * 3)), (10, .int q15), (9, .int q6), (0, .ref (ad 0)), (1, .ref b1), (2, .ref b2), (3, .ref b3), (4, .ref b4), (5, .ref b5), (6, .ref b6), (7, .ref b7), (8, .int p8)]) hx hb dL_acts_397 hl (Nat.le_of_ble_eq_true rfl) rfl (fun ls hl => ?_)
                          refine lv_aload_n hx hb dL_acts_399 rfl (lv_at hl 5 rfl) ?_
                          refine lv_iconst (v := 5) hx hb dL_acts_400 ic_5 ?_
                          refine lv_iload hx hb dL_acts_401 (lv_at hl 1 rfl) ?_
                          refine lv_iadd hx hb dL_acts_403 ?_
                          refine lv_iload hx hb dL_acts_404 (lv_at hl 1 rfl) ?_
                          refine lv_if_ne (tgt := 419) hx hb dL_acts_406 (by decide) (fun c406 => ?_) (fun c406 => ?_)
                          · replace hR := it_f hR c406
                            refine lv_iload hx hb dL_acts_419 (lv_at hl 1 rfl) ?_
                            refine lv_iconst (v := 1) hx hb dL_acts_421 ic_1 ?_
                            refine lv_icmp_ne (tgt := 450) hx hb dL_acts_422 (by decide) (fun c422 => ?_) (fun c422 => ?_)
                            · replace hR := it_f hR c422
                              refine lv_iload hx hb dL_acts_450 (lv_at hl 3 rfl) ?_
                              refine lv_iconst (v := 3) hx hb dL_acts_452 ic_3 ?_
                              refine lv_idiv hx hb dL_acts_453 (by decide) ?_
                              refine lv_sipush (v := 1000) hx hb dL_acts_454 sp_1000 ?_
                              refine lv_irem hx hb dL_acts_457 (by decide) ?_
                              exact hB458 S1 S2 S3 S4 S5 S6 S7 S8 (q6 - q6 / 3 * 3) x397 ((5 : Int32) + (q6 - q6 / 3 * 3)) ((q6 / 3) - (q6 / 3) / 1000 * 1000) H15 _ ls hR hP hD hS (lv_sub hl [4, 5, 1, 0] rfl)
                            · replace hR := it_t hR c422
                              refine lv_iconst (v := 1) hx hb dL_acts_425 ic_1 ?_
                              refine lv_iload hx hb dL_acts_426 (lv_at hl 3 rfl) ?_
                              refine lv_iconst (v := 3) hx hb dL_acts_428 ic_3 ?_
                              refine lv_idiv hx hb dL_acts_429 (by decide) ?_
                              refine lv_iload hx hb dL_acts_430 (lv_at hl 3 rfl) ?_
                              refine lv_iconst (v := 2) hx hb dL_acts_432 ic_2 ?_
                              refine lv_irem hx hb dL_acts_433 (by decide) ?_
                              refine lv_if_ne (tgt := 442) hx hb dL_acts_434 (by decide) (fun c434 => ?_) (fun c434 => ?_)
                              · replace hR := it_f hR c434
                                refine lv_sipush (v := 999) hx hb dL_acts_442 sp_999 ?_
                                exact hB445 S1 S2 S3 S4 S5 S6 S7 S8 (q6 - q6 / 3 * 3) x397 ((5 : Int32) + (q6 - q6 / 3 * 3)) (1 : Int32) (q6 / 3) (999 : Int32) H15 _ ls hR hP hD hS (lv_sub hl [4, 5, 1, 0] rfl)
                              · replace hR := it_t hR c434
                                refine lv_bipush (v := 30) hx hb dL_acts_437 bp_30 ?_
                                refine lv_goto (tgt := 445) hx hb dL_acts_439 (by decide) ?_
                                exact hB445 S1 S2 S3 S4 S5 S6 S7 S8 (q6 - q6 / 3 * 3) x397 ((5 : Int32) + (q6 - q6 / 3 * 3)) (1 : Int32) (q6 / 3) (30 : Int32) H15 _ ls hR hP hD hS (lv_sub hl [4, 5, 1, 0] rfl)
                          · replace hR := it_t hR c406
                            refine lv_iload hx hb dL_acts_409 (lv_at hl 3 rfl) ?_
                            refine lv_iconst (v := 3) hx hb dL_acts_411 ic_3 ?_
                            refine lv_idiv hx hb dL_acts_412 (by decide) ?_
                            refine lv_bipush (v := 100) hx hb dL_acts_413 bp_100 ?_
                            refine lv_irem hx hb dL_acts_415 (by decide) ?_
                            refine lv_goto (tgt := 458) hx hb dL_acts_416 (by decide) ?_
                            exact hB458 S1 S2 S3 S4 S5 S6 S7 S8 (q6 - q6 / 3 * 3) x397 ((5 : Int32) + (q6 - q6 / 3 * 3)) ((q6 / 3) - (q6 / 3) / 100 * 100) H15 _ ls hR hP hD hS (lv_sub hl [4, 5, 1, 0] rfl)
                        · replace hR := it_f hR c279
                          refine lv_iload hx hb dL_acts_282 (lv_at hl 1 rfl) ?_
                          refine lv_aload_n hx hb dL_acts_284 rfl (lv_at hl 3 rfl) ?_
                          refine lv_iconst (v := 1) hx hb dL_acts_285 ic_1 ?_
                          refine va_iald hx hb hK hP 0 0 rfl rfl vi_1_8 dL_acts_286 ?_
                          replace hR := nz_e hR
                          obtain ⟨z287, hR⟩ := hR
                          refine lv_irem hx hb dL_acts_287 z287 ?_
                          replace hR := bn_e hR
                          obtain ⟨x288, ex288, hR⟩ := hR
                          refine tp_g ex288 ?_
                          refine lv_istore (lv' := [(11, .int x288), (10, .int q15), (9, .int q6), (0, .ref (ad 0)), (1, .ref b1), (2, .ref b2), (3, .ref b3), (4, .ref b4), (5, .ref b5), (6, .ref b6), (7, .ref b7), (8, .int p8)]) hx hb dL_acts_288 hl (Nat.le_of_ble_eq_true rfl) rfl (fun ls hl => ?_)
                          refine lv_aload_n hx hb dL_acts_290 rfl (lv_at hl 6 rfl) ?_
                          refine lv_iconst (v := 3) hx hb dL_acts_291 ic_3 ?_
                          refine lv_iload hx hb dL_acts_292 (lv_at hl 0 rfl) ?_
                          refine lv_imul hx hb dL_acts_294 ?_
                          replace hR := gi_e hR
                          obtain ⟨i295, hR⟩ := hR
                          refine va_iald hx hb hK hP 2 0 rfl rfl i295 dL_acts_295 ?_
                          refine lv_iconst (v := 1) hx hb dL_acts_296 ic_1 ?_
                          refine lv_icmp_gt (tgt := 311) hx hb dL_acts_297 (by decide) (fun c297 => ?_) (fun c297 => ?_)
                          · replace hR := it_t hR c297
                            exact hB311 S1 S2 S3 S4 S5 S6 S7 S8 x288 H15 _ ls hR hP hD hS (lv_sub hl [3, 0] rfl)
                          · replace hR := it_f hR c297
                            refine lv_aload hx hb dL_acts_300 (lv_at hl 7 rfl) ?_
                            refine lv_iconst (v := 3) hx hb dL_acts_302 ic_3 ?_
                            refine lv_iload hx hb dL_acts_303 (lv_at hl 0 rfl) ?_
                            refine lv_imul hx hb dL_acts_305 ?_
                            replace hR := gi_e hR
                            obtain ⟨i306, hR⟩ := hR
                            refine va_iald hx hb hK hP 3 0 rfl rfl i306 dL_acts_306 ?_
                            refine lv_iconst (v := 1) hx hb dL_acts_307 ic_1 ?_
                            refine lv_icmp_ne (tgt := 328) hx hb dL_acts_308 (by decide) (fun c308 => ?_) (fun c308 => ?_)
                            · replace hR := it_f hR c308
                              refine lv_aload hx hb dL_acts_328 (lv_at hl 7 rfl) ?_
                              refine lv_iconst (v := 3) hx hb dL_acts_330 ic_3 ?_
                              refine lv_iload hx hb dL_acts_331 (lv_at hl 0 rfl) ?_
                              refine lv_imul hx hb dL_acts_333 ?_
                              refine lv_iconst (v := 1) hx hb dL_acts_334 ic_1 ?_
                              replace hR := gi_e hR
                              obtain ⟨i335, hR⟩ := hR
                              refine va_iast hx hb hK hP hD hS 3 0 rfl rfl i335 dL_acts_335 (fun H335 locs335 hP' hD' hS' => ?_)
                              replace hS := hS'
                              have hP' : va_P (dC, dI) vwCl (fl [[(b1, .inl (cs 0, 8, .inl S1))], [(b2, .inl (cs 0, 24, .inl S2))], [(b3, .inl (cs 0, 48, .inl S3))], [(b4, .inl (cs 0, 48, .inl (sU S4 ((3 : Int32) * x288).toNatClampNeg (1 : Int32))))], [(b5, .inl (cs 0, 40, .inl S5))], [(b6, .inl (cs 0, 32, .inl S6))], [(b7, .inl (cs 0, 6, .inl S7))], (w_X10 ad (0) cs en S8)]) H335 := hP'
                              have hD' : va_D A (fl [[(b1, .inl (cs 0, 8, .inl S1))], [(b2, .inl (cs 0, 24, .inl S2))], [(b3, .inl (cs 0, 48, .inl S3))], [(b4, .inl (cs 0, 48, .inl (sU S4 ((3 : Int32) * x288).toNatClampNeg (1 : Int32))))], [(b5, .inl (cs 0, 40, .inl S5))], [(b6, .inl (cs 0, 32, .inl S6))], [(b7, .inl (cs 0, 6, .inl S7))], (w_X10 ad (0) cs en S8)]) := hD'
                              replace hR := bn_e hR
                              obtain ⟨S4_335, eS4_335, hR⟩ := hR
                              replace hP : va_P (dC, dI) vwCl (fl [[(b1, .inl (cs 0, 8, .inl S1))], [(b2, .inl (cs 0, 24, .inl S2))], [(b3, .inl (cs 0, 48, .inl S3))], [(b4, .inl (cs 0, 48, .inl S4_335))], [(b5, .inl (cs 0, 40, .inl S5))], [(b6, .inl (cs 0, 32, .inl S6))], [(b7, .inl (cs 0, 6, .inl S7))], (w_X10 ad (0) cs en S8)]) H335 := by rw [eS4_335]; exact hP'
                              replace hD : va_D A (fl [[(b1, .inl (cs 0, 8, .inl S1))], [(b2, .inl (cs 0, 24, .inl S2))], [(b3, .inl (cs 0, 48, .inl S3))], [(b4, .inl (cs 0, 48, .inl S4_335))], [(b5, .inl (cs 0, 40, .inl S5))], [(b6, .inl (cs 0, 32, .inl S6))], [(b7, .inl (cs 0, 6, .inl S7))], (w_X10 ad (0) cs en S8)]) := by rw [eS4_335]; exact hD'
                              clear hP' hD' hS'
                              refine lv_iconst (v := 0) hx hb dL_acts_336 ic_0 ?_
                              refine lv_istore (lv' := [(12, .int (0 : Int32)), (11, .int x288), (10, .int q15), (9, .int q6), (0, .ref (ad 0)), (1, .ref b1), (2, .ref b2), (3, .ref b3), (4, .ref b4), (5, .ref b5), (6, .ref b6), (7, .ref b7), (8, .int p8)]) hx hb dL_acts_337 hl (Nat.le_of_ble_eq_true rfl) rfl (fun ls hl => ?_)
                              refine lv_iconst (v := 0) hx hb dL_acts_339 ic_0 ?_
                              refine lv_istore (lv' := [(13, .int (0 : Int32)), (12, .int (0 : Int32)), (11, .int x288), (10, .int q15), (9, .int q6), (0, .ref (ad 0)), (1, .ref b1), (2, .ref b2), (3, .ref b3), (4, .ref b4), (5, .ref b5), (6, .ref b6), (7, .ref b7), (8, .int p8)]) hx hb dL_acts_340 hl (Nat.le_of_ble_eq_true rfl) rfl (fun ls hl => ?_)
                              exact hB342 fuel S1 S2 S3 S4_335 S5 S6 S7 S8 x288 (0 : Int32) (0 : Int32) H335 _ ls hR hP hD hS (lv_sub hl [5, 6, 9, 2, 1, 0] rfl)
                            · replace hR := it_t hR c308
                              exact hB311 S1 S2 S3 S4 S5 S6 S7 S8 x288 H15 _ ls hR hP hD hS (lv_sub hl [3, 0] rfl)
                      · replace hR := it_f hR c260
                        refine lv_aload_n hx hb dL_acts_263 rfl (lv_at hl 2 rfl) ?_
                        refine lv_aload_n hx hb dL_acts_264 rfl (lv_at hl 3 rfl) ?_
                        refine lv_aload_n hx hb dL_acts_265 rfl (lv_at hl 4 rfl) ?_
                        refine lv_aload_n hx hb dL_acts_266 rfl (lv_at hl 5 rfl) ?_
                        refine lv_aload hx hb dL_acts_267 (lv_at hl 6 rfl) ?_
                        refine lv_iload hx hb dL_acts_269 (lv_at hl 1 rfl) ?_
                        replace hR := bd_e hR
                        obtain ⟨q271, gq271, hR⟩ := hR
                        refine cm_Si (As := [.ref (ad 0), .ref b1, .ref b2, .ref b3, .ref b4, .int q6]) (rest := []) (L := [[(b1, .inl (cs 0, 8, .inl S1))], [(b2, .inl (cs 0, 24, .inl S2))], [(b3, .inl (cs 0, 48, .inl S3))], [(b4, .inl (cs 0, 48, .inl S4))], [(b5, .inl (cs 0, 40, .inl S5))], [(b6, .inl (cs 0, 32, .inl S6))], [(b7, .inl (cs 0, 6, .inl S7))], (w_X10 ad (0) cs en S8)]) (L' := [[(b1, .inl (cs 0, 8, .inl q271.2.1))], [(b2, .inl (cs 0, 24, .inl S2))], [(b3, .inl (cs 0, 48, .inl q271.2.2.1))], [(b4, .inl (cs 0, 48, .inl q271.2.2.2.1))], [(b5, .inl (cs 0, 40, .inl S5))], [(b6, .inl (cs 0, 32, .inl S6))], [(b7, .inl (cs 0, 6, .inl S7))], (w_X10 ad (0) cs en q271.2.2.2.2)]) (Wc := [[(b1, .inl (cs 0, 8, .inl S1))], [(b2, .inl (cs 0, 24, .inl S2))], [(b3, .inl (cs 0, 48, .inl S3))], [(b4, .inl (cs 0, 48, .inl S4))], (w_X10 ad (0) cs en S8)]) (Wc' := [[(b1, .inl (cs 0, 8, .inl q271.2.1))], [(b2, .inl (cs 0, 24, .inl S2))], [(b3, .inl (cs 0, 48, .inl q271.2.2.1))], [(b4, .inl (cs 0, 48, .inl q271.2.2.2.1))], (w_X10 ad (0) cs en q271.2.2.2.2)]) (is := [0, 1, 2, 3, 7]) (js := [4, 5, 6]) ⟨hx, hb, hml, hown, hts⟩ (k_L_pauses l dC dI cs ad en (b1) (b2) (b3) (b4) H15.size S1 S2 S3 S4 S8 q6 q271.1 q271.2.1 q271.2.2.1 q271.2.2.2.1 q271.2.2.2.2 gq271) (va_cwS 6 hts gL_acts_L_pauses rfl rfl rfl cd_L_pauses.2 ⟨Nat.le_of_ble_eq_true rfl, Nat.le_of_ble_eq_true rfl⟩) hK hP hD hS hA ⟨rfl, rfl, rfl, rfl, rfl, rfl⟩ (jn_nd (is := [0, 1, 2, 3, 7]) hD rfl rfl) rfl rfl hl.1 (Nat.le_of_ble_eq_true rfl) dL_acts_271 ⟨Nat.le_of_ble_eq_true rfl, Nat.le_of_ble_eq_true rfl⟩ (fun H271 locs271 hP' hD' hS' => ?_)
                        replace hS := hS'
                        replace hP : va_P (dC, dI) vwCl (fl [[(b1, .inl (cs 0, 8, .inl q271.2.1))], [(b2, .inl (cs 0, 24, .inl S2))], [(b3, .inl (cs 0, 48, .inl q271.2.2.1))], [(b4, .inl (cs 0, 48, .inl q271.2.2.2.1))], [(b5, .inl (cs 0, 40, .inl S5))], [(b6, .inl (cs 0, 32, .inl S6))], [(b7, .inl (cs 0, 6, .inl S7))], (w_X10 ad (0) cs en q271.2.2.2.2)]) H271 := hP'
                        replace hD : va_D A (fl [[(b1, .inl (cs 0, 8, .inl q271.2.1))], [(b2, .inl (cs 0, 24, .inl S2))], [(b3, .inl (cs 0, 48, .inl q271.2.2.1))], [(b4, .inl (cs 0, 48, .inl q271.2.2.2.1))], [(b5, .inl (cs 0, 40, .inl S5))], [(b6, .inl (cs 0, 32, .inl S6))], [(b7, .inl (cs 0, 6, .inl S7))], (w_X10 ad (0) cs en q271.2.2.2.2)]) := hD'
                        clear hP' hD' hS'
                        replace hR := gz_e hR
                        obtain ⟨hn, hR⟩ := hR
                        replace hR := Option.some.inj hR
                        obtain ⟨e9, hR⟩ := Prod.mk.inj hR
                        obtain ⟨eu1, hR⟩ := Prod.mk.inj hR
                        obtain ⟨eu2, hR⟩ := Prod.mk.inj hR
                        obtain ⟨eu3, hR⟩ := Prod.mk.inj hR
                        obtain ⟨eu4, hR⟩ := Prod.mk.inj hR
                        obtain ⟨eu5, hR⟩ := Prod.mk.inj hR
                        obtain ⟨eu6, hR⟩ := Prod.mk.inj hR
                        obtain ⟨eu7, hR⟩ := Prod.mk.inj hR
                        have eu8 := hR
                        replace hP : va_P (dC, dI) vwCl (fl [[(b1, .inl (cs 0, 8, .inl u1))], [(b2, .inl (cs 0, 24, .inl u2))], [(b3, .inl (cs 0, 48, .inl u3))], [(b4, .inl (cs 0, 48, .inl u4))], [(b5, .inl (cs 0, 40, .inl u5))], [(b6, .inl (cs 0, 32, .inl u6))], [(b7, .inl (cs 0, 6, .inl u7))], (w_X10 ad (0) cs en u8)]) H271 := by rw [← eu1, ← eu2, ← eu3, ← eu4, ← eu5, ← eu6, ← eu7, ← eu8]; exact hP
                        replace hD : va_D A (fl [[(b1, .inl (cs 0, 8, .inl u1))], [(b2, .inl (cs 0, 24, .inl u2))], [(b3, .inl (cs 0, 48, .inl u3))], [(b4, .inl (cs 0, 48, .inl u4))], [(b5, .inl (cs 0, 40, .inl u5))], [(b6, .inl (cs 0, 32, .inl u6))], [(b7, .inl (cs 0, 6, .inl u7))], (w_X10 ad (0) cs en u8)]) := by rw [← eu1, ← eu2, ← eu3, ← eu4, ← eu5, ← eu6, ← eu7, ← eu8]; exact hD
                        exact W.zret (ty := .boolean) hx hb hr hn (fun t ht hW => ⟨⟨_, (), rfl, e9, by rw [ht]; exact hP, va_K.moved hW.alike hK, hD⟩, hS.F ht⟩) hS.2.2 dL_acts_274
                    · replace hR := it_f hR c205
                      refine lv_aload_n hx hb dL_acts_208 rfl (lv_at hl 2 rfl) ?_
                      refine lv_aload_n hx hb dL_acts_209 rfl (lv_at hl 3 rfl) ?_
                      refine lv_aload_n hx hb dL_acts_210 rfl (lv_at hl 4 rfl) ?_
                      refine lv_aload_n hx hb dL_acts_211 rfl (lv_at hl 5 rfl) ?_
                      refine lv_aload hx hb dL_acts_212 (lv_at hl 6 rfl) ?_
                      refine lv_aload hx hb dL_acts_214 (lv_at hl 9 rfl) ?_
                      refine lv_iload hx hb dL_acts_216 (lv_at hl 0 rfl) ?_
                      refine lv_bipush (v := 18) hx hb dL_acts_218 bp_18 ?_
                      refine lv_icmp_ge (tgt := 227) hx hb dL_acts_220 (by decide) (fun c220 => ?_) (fun c220 => ?_)
                      · replace hR := it_t hR c220
                        refine lv_iload hx hb dL_acts_227 (lv_at hl 0 rfl) ?_
                        refine lv_bipush (v := 18) hx hb dL_acts_229 bp_18 ?_
                        refine lv_icmp_ne (tgt := 238) hx hb dL_acts_231 (by decide) (fun c231 => ?_) (fun c231 => ?_)
                        · replace hR := it_f hR c231
                          refine lv_iload hx hb dL_acts_238 (lv_at hl 0 rfl) ?_
                          refine lv_bipush (v := 21) hx hb dL_acts_240 bp_21 ?_
                          refine lv_icmp_ge (tgt := 249) hx hb dL_acts_242 (by decide) (fun c242 => ?_) (fun c242 => ?_)
                          · replace hR := it_t hR c242
                            refine lv_iconst (v := 3) hx hb dL_acts_249 ic_3 ?_
                            exact hB250 S1 S2 S3 S4 S5 S6 S7 S8 q6 (3 : Int32) H15 _ ls hR hP hD hS (lv_sub hl [1] rfl)
                          · replace hR := it_f hR c242
                            refine lv_iconst (v := 2) hx hb dL_acts_245 ic_2 ?_
                            refine lv_goto (tgt := 250) hx hb dL_acts_246 (by decide) ?_
                            exact hB250 S1 S2 S3 S4 S5 S6 S7 S8 q6 (2 : Int32) H15 _ ls hR hP hD hS (lv_sub hl [1] rfl)
                        · replace hR := it_t hR c231
                          refine lv_iconst (v := 1) hx hb dL_acts_234 ic_1 ?_
                          refine lv_goto (tgt := 250) hx hb dL_acts_235 (by decide) ?_
                          exact hB250 S1 S2 S3 S4 S5 S6 S7 S8 q6 (1 : Int32) H15 _ ls hR hP hD hS (lv_sub hl [1] rfl)
                      · replace hR := it_f hR c220
                        refine lv_iconst (v := 0) hx hb dL_acts_223 ic_0 ?_
                        refine lv_goto (tgt := 250) hx hb dL_acts_224 (by decide) ?_
                        exact hB250 S1 S2 S3 S4 S5 S6 S7 S8 q6 (0 : Int32) H15 _ ls hR hP hD hS (lv_sub hl [1] rfl)
                  · replace hR := it_f hR c148
                    refine lv_aload_n hx hb dL_acts_151 rfl (lv_at hl 2 rfl) ?_
                    refine lv_aload_n hx hb dL_acts_152 rfl (lv_at hl 3 rfl) ?_
                    refine lv_aload_n hx hb dL_acts_153 rfl (lv_at hl 4 rfl) ?_
                    refine lv_aload_n hx hb dL_acts_154 rfl (lv_at hl 5 rfl) ?_
                    refine lv_aload hx hb dL_acts_155 (lv_at hl 6 rfl) ?_
                    refine lv_aload hx hb dL_acts_157 (lv_at hl 7 rfl) ?_
                    refine lv_aload hx hb dL_acts_159 (lv_at hl 8 rfl) ?_
                    refine lv_iload hx hb dL_acts_161 (lv_at hl 0 rfl) ?_
                    refine lv_bipush (v := 7) hx hb dL_acts_163 bp_7 ?_
                    refine lv_icmp_ne (tgt := 172) hx hb dL_acts_165 (by decide) (fun c165 => ?_) (fun c165 => ?_)
                    · replace hR := it_f hR c165
                      refine lv_iload hx hb dL_acts_172 (lv_at hl 0 rfl) ?_
                      refine lv_bipush (v := 11) hx hb dL_acts_174 bp_11 ?_
                      refine lv_icmp_ge (tgt := 183) hx hb dL_acts_176 (by decide) (fun c176 => ?_) (fun c176 => ?_)
                      · replace hR := it_t hR c176
                        refine lv_iload hx hb dL_acts_183 (lv_at hl 0 rfl) ?_
                        refine lv_bipush (v := 14) hx hb dL_acts_185 bp_14 ?_
                        refine lv_icmp_ge (tgt := 194) hx hb dL_acts_187 (by decide) (fun c187 => ?_) (fun c187 => ?_)
                        · replace hR := it_t hR c187
                          refine lv_iconst (v := 3) hx hb dL_acts_194 ic_3 ?_
                          exact hB195 S1 S2 S3 S4 S5 S6 S7 S8 q6 (3 : Int32) H15 _ ls hR hP hD hS (lv_sub hl [1] rfl)
                        · replace hR := it_f hR c187
                          refine lv_iconst (v := 2) hx hb dL_acts_190 ic_2 ?_
                          refine lv_goto (tgt := 195) hx hb dL_acts_191 (by decide) ?_
                          exact hB195 S1 S2 S3 S4 S5 S6 S7 S8 q6 (2 : Int32) H15 _ ls hR hP hD hS (lv_sub hl [1] rfl)
                      · replace hR := it_f hR c176
                        refine lv_iconst (v := 1) hx hb dL_acts_179 ic_1 ?_
                        refine lv_goto (tgt := 195) hx hb dL_acts_180 (by decide) ?_
                        exact hB195 S1 S2 S3 S4 S5 S6 S7 S8 q6 (1 : Int32) H15 _ ls hR hP hD hS (lv_sub hl [1] rfl)
                    · replace hR := it_t hR c165
                      refine lv_iconst (v := 0) hx hb dL_acts_168 ic_0 ?_
                      refine lv_goto (tgt := 195) hx hb dL_acts_169 (by decide) ?_
                      exact hB195 S1 S2 S3 S4 S5 S6 S7 S8 q6 (0 : Int32) H15 _ ls hR hP hD hS (lv_sub hl [1] rfl)
                · replace hR := it_t hR c122
                  exact hB125 S1 S2 S3 S4 S5 S6 S7 S8 q6 H15 _ ls hR hP hD hS (lv_sub hl [2, 3, 4, 5, 6, 7, 8, 9, 1] rfl)
            · replace hR := it_t hR c90
              exact hB93 S1 S2 S3 S4 S5 S6 S7 S8 q6 H15 _ ls hR hP hD hS (lv_sub hl [2, 3, 4, 5, 6, 7, 8, 9, 1] rfl)
        · replace hR := it_t hR c59
          exact hB62 S1 S2 S3 S4 S5 S6 S7 S8 q6 H15 _ ls hR hP hD hS (lv_sub hl [2, 3, 4, 5, 6, 7, 8, 9, 1] rfl)
    · replace hR := it_t hR c28
      exact hB31 S1 S2 S3 S4 S5 S6 S7 S8 q6 H15 _ ls hR hP hD hS (lv_sub hl [2, 3, 4, 5, 6, 7, 8, 9, 1] rfl)
