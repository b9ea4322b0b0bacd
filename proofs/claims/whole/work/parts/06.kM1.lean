set_option maxHeartbeats 8000000 in
set_option maxRecDepth 100000 in
theorem k_X11_rent (l : Launch) (dC : Nat → ClassId) (dI : Nat → Nat → Nat) (cs : Nat → ClassId) (ad : Nat → Nat) (b1 : Nat) (sz : Nat) (S1 : T2) (p1 : Int32) (p2 : Int32) (r : Int32) (u1 : T2) (hR : fX11_rent S1 p1 p2 = some (r, u1)) : Met l yX11_rent wsX11_rent ({ frames := 2, cells := 0, slots := 0, locals := 43 } : Room) (va_Pc [.ref (ad b1), .int p1, .int p2] (pW dC dI (tyL cs) (fl [(w_X11 ad (b1) cs S1)]) sz)) (QI dC dI (tyL cs) (va_A (fl [(w_X11 ad (b1) cs S1)]) sz) (fl [(w_X11 ad (b1) cs u1)]) r) 0 0 (va_A (fl [(w_X11 ad (b1) cs S1)]) sz) := by
  refine mt_of (own := RX11) (cc := cX11_rent) (maxL := 6) (ret := (some .int)) (Qc := fun A => QI dC dI (tyL cs) A (fl [(w_X11 ad (b1) cs u1)]) r) rfl (by decide) rfl (Nat.le_of_ble_eq_true rfl) (fun p e s m below meth c A ls hsz hx hb hr hts hown hlocks hml hA hK hP hD hS hl => ?_)
  subst hsz
  have hl : lv_has ls 6 [(0, .ref (ad b1)), (1, .int p1), (2, .int p2)] := hl
  have hF7 := hts (.fieldLink RX11 7 "DockedBikesModel" "s" "[I") (List.mem_of_getElem? (i := 1) rfl)
  have hinX11 : ∀ w ∈ wsX110, w ∈ wsX11_rent := by decide +kernel
  have hB220 : ∀ (S1_220h : T2) (v3_220 : Int32) (v4_220 : Int32) (t1_220 : Int32) (t2_220 : Int32) (H : Heap) (locs : List Loc) (ls : Array Slot), fX11_rent_220 p1 p2 S1_220h v3_220 v4_220 t1_220 t2_220 = some (r, u1) → va_P (dC, dI) vwCl (fl [(w_X11 ad (b1) cs S1_220h)]) H → va_D A (fl [(w_X11 ad (b1) cs S1_220h)]) → va_S A s.heap H locs → lv_has ls 6 [(0, .ref (ad b1)), (2, .int p2), (3, .int v3_220), (4, .int v4_220)] → W p l e (headSpec wsX11_rent ({ frames := 2, cells := 0, slots := 0, locals := 43 } : Room)).room s m ([.ref (ad b1), .int p1, .int p2] : List Value).toArray below meth c H locs 0 0 (MQ below (QI dC dI (tyL cs) A (fl [(w_X11 ad (b1) cs u1)]) r) ([.ref (ad b1), .int p1, .int p2] : List Value).toArray s 0 0 A) (F0 m 220 ls [.int t2_220, .int t1_220, .ref (ad (b1 + 1))]) := by
    intro S1_220h v3_220 v4_220 t1_220 t2_220 H locs ls hR hP hD hS hl
    replace hR := gi_e hR
    obtain ⟨i220, hR⟩ := hR
    refine va_iast hx hb hK hP hD hS 1 0 rfl rfl i220 dX11_rent_220 (fun H220 locs220 hP' hD' hS' => ?_)
    replace hS := hS'
    have hP' : va_P (dC, dI) vwCl (fl [(w_X11 ad (b1) cs (sU S1_220h 0 (sU (S1_220h 0) t1_220.toNatClampNeg t2_220)))]) H220 := hP'
    have hD' : va_D A (fl [(w_X11 ad (b1) cs (sU S1_220h 0 (sU (S1_220h 0) t1_220.toNatClampNeg t2_220)))]) := hD'
    replace hR := bn_e hR
    obtain ⟨S1_220, eS1_220, hR⟩ := hR
    replace hP : va_P (dC, dI) vwCl (fl [(w_X11 ad (b1) cs S1_220)]) H220 := by rw [eS1_220]; exact hP'
    replace hD : va_D A (fl [(w_X11 ad (b1) cs S1_220)]) := by rw [eS1_220]; exact hD'
    clear hP' hD' hS'
    refine lv_aload_n hx hb dX11_rent_221 rfl (lv_at hl 0 rfl) ?_
    refine va_get (D := (dC, dI)) (ci := 9) (v := .ref (ad (b1 + 1))) (C := RX11) (T := TX11) (N := 14) hx hb hts hinX11 hown hK hP 0 rfl rfl 0 (by decide) hF7 (fun _ h9 => h9) rfl dX11_rent_222 ?_
    refine lv_iload hx hb dX11_rent_225 (lv_at hl 3 rfl) ?_
    refine lv_bipush (v := 6) hx hb dX11_rent_227 bp_6 ?_
    refine lv_iadd hx hb dX11_rent_229 ?_
    refine lv_iconst (v := 0) hx hb dX11_rent_230 ic_0 ?_
    replace hR := gi_e hR
    obtain ⟨i231, hR⟩ := hR
    refine va_iast hx hb hK hP hD hS 1 0 rfl rfl i231 dX11_rent_231 (fun H231 locs231 hP' hD' hS' => ?_)
    replace hS := hS'
    have hP' : va_P (dC, dI) vwCl (fl [(w_X11 ad (b1) cs (sU S1_220 0 (sU (S1_220 0) (v4_220 + 6).toNatClampNeg (0 : Int32))))]) H231 := hP'
    have hD' : va_D A (fl [(w_X11 ad (b1) cs (sU S1_220 0 (sU (S1_220 0) (v4_220 + 6).toNatClampNeg (0 : Int32))))]) := hD'
    replace hR := bn_e hR
    obtain ⟨S1_231, eS1_231, hR⟩ := hR
    replace hP : va_P (dC, dI) vwCl (fl [(w_X11 ad (b1) cs S1_231)]) H231 := by rw [eS1_231]; exact hP'
    replace hD : va_D A (fl [(w_X11 ad (b1) cs S1_231)]) := by rw [eS1_231]; exact hD'
    clear hP' hD' hS'
    refine lv_aload_n hx hb dX11_rent_232 rfl (lv_at hl 0 rfl) ?_
    refine va_get (D := (dC, dI)) (ci := 9) (v := .ref (ad (b1 + 1))) (C := RX11) (T := TX11) (N := 14) hx hb hts hinX11 hown hK hP 0 rfl rfl 0 (by decide) hF7 (fun _ h9 => h9) rfl dX11_rent_233 ?_
    refine lv_bipush (v := 8) hx hb dX11_rent_236 bp_8 ?_
    refine lv_iconst (v := 4) hx hb dX11_rent_238 ic_4 ?_
    refine lv_iload_n hx hb dX11_rent_239 rfl (lv_at hl 1 rfl) ?_
    refine lv_imul hx hb dX11_rent_240 ?_
    refine lv_iadd hx hb dX11_rent_241 ?_
    refine lv_iconst (v := 2) hx hb dX11_rent_242 ic_2 ?_
    refine lv_iadd hx hb dX11_rent_243 ?_
    refine lv_dup2_11 hx hb dX11_rent_244 rfl rfl ?_
    replace hR := gi_e hR
    obtain ⟨i245, hR⟩ := hR
    refine va_iald hx hb hK hP 1 0 rfl rfl i245 dX11_rent_245 ?_
    refine lv_iconst (v := 1) hx hb dX11_rent_246 ic_1 ?_
    refine lv_iadd hx hb dX11_rent_247 ?_
    replace hR := gi_e hR
    obtain ⟨i248, hR⟩ := hR
    refine va_iast hx hb hK hP hD hS 1 0 rfl rfl i248 dX11_rent_248 (fun H248 locs248 hP' hD' hS' => ?_)
    replace hS := hS'
    have hP' : va_P (dC, dI) vwCl (fl [(w_X11 ad (b1) cs (sU S1_231 0 (sU (S1_231 0) (((8 : Int32) + ((4 : Int32) * p2)) + 2).toNatClampNeg ((S1_231 0 (((8 : Int32) + ((4 : Int32) * p2)) + 2).toNatClampNeg) + 1))))]) H248 := hP'
    have hD' : va_D A (fl [(w_X11 ad (b1) cs (sU S1_231 0 (sU (S1_231 0) (((8 : Int32) + ((4 : Int32) * p2)) + 2).toNatClampNeg ((S1_231 0 (((8 : Int32) + ((4 : Int32) * p2)) + 2).toNatClampNeg) + 1))))]) := hD'
    replace hR := bn_e hR
    obtain ⟨S1_248, eS1_248, hR⟩ := hR
    replace hP : va_P (dC, dI) vwCl (fl [(w_X11 ad (b1) cs S1_248)]) H248 := by rw [eS1_248]; exact hP'
    replace hD : va_D A (fl [(w_X11 ad (b1) cs S1_248)]) := by rw [eS1_248]; exact hD'
    clear hP' hD' hS'
    refine lv_iload_n hx hb dX11_rent_249 rfl (lv_at hl 2 rfl) ?_
    replace hR := Option.some.inj hR
    obtain ⟨e9, hR⟩ := Prod.mk.inj hR
    have eu1 := hR
    replace hP : va_P (dC, dI) vwCl (fl [(w_X11 ad (b1) cs u1)]) H248 := by rw [← eu1]; exact hP
    replace hD : va_D A (fl [(w_X11 ad (b1) cs u1)]) := by rw [← eu1]; exact hD
    exact W.iret hx hb hr (fun t ht hW => ⟨⟨_, (), rfl, e9, by rw [ht]; exact hP, va_K.moved hW.alike hK, hD⟩, hS.F ht⟩) hS.2.2 dX11_rent_250
  have hB193 : ∀ (S1_193h : T2) (v3_193 : Int32) (v4_193 : Int32) (t1_193 : Int32) (t2_193 : Int32) (H : Heap) (locs : List Loc) (ls : Array Slot), fX11_rent_193 p1 p2 S1_193h v3_193 v4_193 t1_193 t2_193 = some (r, u1) → va_P (dC, dI) vwCl (fl [(w_X11 ad (b1) cs S1_193h)]) H → va_D A (fl [(w_X11 ad (b1) cs S1_193h)]) → va_S A s.heap H locs → lv_has ls 6 [(0, .ref (ad b1)), (1, .int p1), (2, .int p2), (3, .int v3_193), (4, .int v4_193)] → W p l e (headSpec wsX11_rent ({ frames := 2, cells := 0, slots := 0, locals := 43 } : Room)).room s m ([.ref (ad b1), .int p1, .int p2] : List Value).toArray below meth c H locs 0 0 (MQ below (QI dC dI (tyL cs) A (fl [(w_X11 ad (b1) cs u1)]) r) ([.ref (ad b1), .int p1, .int p2] : List Value).toArray s 0 0 A) (F0 m 193 ls [.int t2_193, .int t1_193, .ref (ad (b1 + 1))]) := by
    intro S1_193h v3_193 v4_193 t1_193 t2_193 H locs ls hR hP hD hS hl
    replace hR := gi_e hR
    obtain ⟨i193, hR⟩ := hR
    refine va_iast hx hb hK hP hD hS 1 0 rfl rfl i193 dX11_rent_193 (fun H193 locs193 hP' hD' hS' => ?_)
    replace hS := hS'
    have hP' : va_P (dC, dI) vwCl (fl [(w_X11 ad (b1) cs (sU S1_193h 0 (sU (S1_193h 0) t1_193.toNatClampNeg t2_193)))]) H193 := hP'
    have hD' : va_D A (fl [(w_X11 ad (b1) cs (sU S1_193h 0 (sU (S1_193h 0) t1_193.toNatClampNeg t2_193)))]) := hD'
    replace hR := bn_e hR
    obtain ⟨S1_193, eS1_193, hR⟩ := hR
    replace hP : va_P (dC, dI) vwCl (fl [(w_X11 ad (b1) cs S1_193)]) H193 := by rw [eS1_193]; exact hP'
    replace hD : va_D A (fl [(w_X11 ad (b1) cs S1_193)]) := by rw [eS1_193]; exact hD'
    clear hP' hD' hS'
    refine lv_aload_n hx hb dX11_rent_194 rfl (lv_at hl 0 rfl) ?_
    refine va_get (D := (dC, dI)) (ci := 9) (v := .ref (ad (b1 + 1))) (C := RX11) (T := TX11) (N := 14) hx hb hts hinX11 hown hK hP 0 rfl rfl 0 (by decide) hF7 (fun _ h9 => h9) rfl dX11_rent_195 ?_
    refine lv_iload hx hb dX11_rent_198 (lv_at hl 4 rfl) ?_
    refine lv_iconst (v := 4) hx hb dX11_rent_200 ic_4 ?_
    refine lv_iadd hx hb dX11_rent_201 ?_
    refine lv_aload_n hx hb dX11_rent_202 rfl (lv_at hl 0 rfl) ?_
    refine lv_iload_n hx hb dX11_rent_203 rfl (lv_at hl 1 rfl) ?_
    replace hR := bd_e hR
    obtain ⟨q204, gq204, hR⟩ := hR
    refine cl_Vi (As := [.int p1]) (rest := [.int (v4_193 + 4), .ref (ad (b1 + 1))]) (L := [(w_X11 ad (b1) cs S1_193)]) (L' := [(w_X11 ad (b1) cs S1_193)]) (Wc := [(w_X11 ad (b1) cs S1_193)]) (Wc' := [(w_X11 ad (b1) cs S1_193)]) (is := [0]) (js := []) ⟨hx, hb, hml, hown, hts⟩ (k_X11_hasPass l dC dI cs ad (b1) H193.size S1_193 p1 q204 gq204) (cwV 1 hts gX11_rent_X11_hasPass rfl rfl rfl cd_X11_hasPass ⟨Nat.le_of_ble_eq_true rfl, Nat.le_of_ble_eq_true rfl⟩) hK hP hD hS hA ⟨rfl, rfl, rfl, rfl, rfl, rfl⟩ (jn_nd (is := [0]) hD rfl rfl) 0 9 rfl rfl rfl rfl rfl hl.1 (Nat.le_of_ble_eq_true rfl) dX11_rent_204 (fun H204 locs204 hP' hD' hS' => ?_)
    replace hS := hS'
    replace hP : va_P (dC, dI) vwCl (fl [(w_X11 ad (b1) cs S1_193)]) H204 := hP'
    replace hD : va_D A (fl [(w_X11 ad (b1) cs S1_193)]) := hD'
    clear hP' hD' hS'
    refine lv_if_eq (tgt := 219) hx hb dX11_rent_207 (by decide) (fun c207 => ?_) (fun c207 => ?_)
    · replace hR := it_t hR c207
      refine lv_iconst (v := 0) hx hb dX11_rent_219 ic_0 ?_
      exact hB220 S1_193 v3_193 v4_193 (v4_193 + 4) (0 : Int32) H204 _ ls hR hP hD hS (lv_sub hl [0, 2, 3, 4] rfl)
    · replace hR := it_f hR c207
      refine lv_aload_n hx hb dX11_rent_210 rfl (lv_at hl 0 rfl) ?_
      refine va_get (D := (dC, dI)) (ci := 9) (v := .ref (ad (b1 + 1))) (C := RX11) (T := TX11) (N := 14) hx hb hts hinX11 hown hK hP 0 rfl rfl 0 (by decide) hF7 (fun _ h9 => h9) rfl dX11_rent_211 ?_
      refine lv_iconst (v := 5) hx hb dX11_rent_214 ic_5 ?_
      refine va_iald hx hb hK hP 1 0 rfl rfl vi_5_206 dX11_rent_215 ?_
      refine lv_goto (tgt := 220) hx hb dX11_rent_216 (by decide) ?_
      exact hB220 S1_193 v3_193 v4_193 (v4_193 + 4) (S1_193 0 (5 : Int32).toNatClampNeg) H204 _ ls hR hP hD hS (lv_sub hl [0, 2, 3, 4] rfl)
  have hB24 : ∀ (n24 : Nat), ∀ (S1_24h : T2) (v3_24 : Int32) (v4_24 : Int32) (H : Heap) (locs : List Loc) (ls : Array Slot), fX11_rent_24 p1 p2 n24 S1_24h v3_24 v4_24 = some (r, u1) → va_P (dC, dI) vwCl (fl [(w_X11 ad (b1) cs S1_24h)]) H → va_D A (fl [(w_X11 ad (b1) cs S1_24h)]) → va_S A s.heap H locs → lv_has ls 6 [(0, .ref (ad b1)), (1, .int p1), (2, .int p2), (3, .int v3_24), (4, .int v4_24)] → W p l e (headSpec wsX11_rent ({ frames := 2, cells := 0, slots := 0, locals := 43 } : Room)).room s m ([.ref (ad b1), .int p1, .int p2] : List Value).toArray below meth c H locs 0 0 (MQ below (QI dC dI (tyL cs) A (fl [(w_X11 ad (b1) cs u1)]) r) ([.ref (ad b1), .int p1, .int p2] : List Value).toArray s 0 0 A) (F0 m 24 ls []) := by
    intro n24
    induction n24 with
    | zero =>
      intro S1_24h v3_24 v4_24 H locs ls hR hP hD hS hl
      exact nn_e hR
    | succ n24 hI24 =>
      have hB104 : ∀ (S1_104h : T2) (v4_104 : Int32) (t0_104 : Int32) (H : Heap) (locs : List Loc) (ls : Array Slot), fX11_rent_104 (fX11_rent_24 p1 p2 n24) p1 p2 S1_104h v4_104 t0_104 = some (r, u1) → va_P (dC, dI) vwCl (fl [(w_X11 ad (b1) cs S1_104h)]) H → va_D A (fl [(w_X11 ad (b1) cs S1_104h)]) → va_S A s.heap H locs → lv_has ls 6 [(0, .ref (ad b1)), (1, .int p1), (2, .int p2), (4, .int v4_104)] → W p l e (headSpec wsX11_rent ({ frames := 2, cells := 0, slots := 0, locals := 43 } : Room)).room s m ([.ref (ad b1), .int p1, .int p2] : List Value).toArray below meth c H locs 0 0 (MQ below (QI dC dI (tyL cs) A (fl [(w_X11 ad (b1) cs u1)]) r) ([.ref (ad b1), .int p1, .int p2] : List Value).toArray s 0 0 A) (F0 m 104 ls [.int t0_104]) := by
        intro S1_104h v4_104 t0_104 H locs ls hR hP hD hS hl
        refine lv_istore_n (lv' := [(3, .int t0_104), (0, .ref (ad b1)), (1, .int p1), (2, .int p2), (4, .int v4_104)]) hx hb dX11_rent_104 rfl hl (Nat.le_of_ble_eq_true rfl) rfl (fun ls hl => ?_)
        refine lv_iinc (v := (v4_104 + 1)) (lv' := [(4, .int (v4_104 + 1)), (3, .int t0_104), (0, .ref (ad b1)), (1, .int p1), (2, .int p2)]) hx hb dX11_rent_105 hl (k := 4) rfl rfl (Nat.le_of_ble_eq_true rfl) rfl (fun ls hl => ?_)
        refine lv_goto (tgt := 24) hx hb dX11_rent_108 (by decide) ?_
        exact hI24 S1_104h t0_104 (v4_104 + 1) H _ ls hR hP hD hS (lv_sub hl [2, 3, 4, 1, 0] rfl)
      have hB103 : ∀ (S1_103h : T2) (v3_103 : Int32) (v4_103 : Int32) (H : Heap) (locs : List Loc) (ls : Array Slot), fX11_rent_103 (fX11_rent_24 p1 p2 n24) p1 p2 S1_103h v3_103 v4_103 = some (r, u1) → va_P (dC, dI) vwCl (fl [(w_X11 ad (b1) cs S1_103h)]) H → va_D A (fl [(w_X11 ad (b1) cs S1_103h)]) → va_S A s.heap H locs → lv_has ls 6 [(0, .ref (ad b1)), (1, .int p1), (2, .int p2), (3, .int v3_103), (4, .int v4_103)] → W p l e (headSpec wsX11_rent ({ frames := 2, cells := 0, slots := 0, locals := 43 } : Room)).room s m ([.ref (ad b1), .int p1, .int p2] : List Value).toArray below meth c H locs 0 0 (MQ below (QI dC dI (tyL cs) A (fl [(w_X11 ad (b1) cs u1)]) r) ([.ref (ad b1), .int p1, .int p2] : List Value).toArray s 0 0 A) (F0 m 103 ls []) := by
        intro S1_103h v3_103 v4_103 H locs ls hR hP hD hS hl
        refine lv_iload_n hx hb dX11_rent_103 rfl (lv_at hl 3 rfl) ?_
        exact hB104 S1_103h v4_103 v3_103 H _ ls hR hP hD hS (lv_sub hl [0, 1, 2, 4] rfl)
      have hB98 : ∀ (S1_98h : T2) (v4_98 : Int32) (H : Heap) (locs : List Loc) (ls : Array Slot), fX11_rent_98 (fX11_rent_24 p1 p2 n24) p1 p2 S1_98h v4_98 = some (r, u1) → va_P (dC, dI) vwCl (fl [(w_X11 ad (b1) cs S1_98h)]) H → va_D A (fl [(w_X11 ad (b1) cs S1_98h)]) → va_S A s.heap H locs → lv_has ls 6 [(0, .ref (ad b1)), (1, .int p1), (2, .int p2), (4, .int v4_98)] → W p l e (headSpec wsX11_rent ({ frames := 2, cells := 0, slots := 0, locals := 43 } : Room)).room s m ([.ref (ad b1), .int p1, .int p2] : List Value).toArray below meth c H locs 0 0 (MQ below (QI dC dI (tyL cs) A (fl [(w_X11 ad (b1) cs u1)]) r) ([.ref (ad b1), .int p1, .int p2] : List Value).toArray s 0 0 A) (F0 m 98 ls []) := by
        intro S1_98h v4_98 H locs ls hR hP hD hS hl
        refine lv_iload hx hb dX11_rent_98 (lv_at hl 3 rfl) ?_
        refine lv_goto (tgt := 104) hx hb dX11_rent_100 (by decide) ?_
        exact hB104 S1_98h v4_98 v4_98 H _ ls hR hP hD hS (lv_sub hl [0, 1, 2, 3] rfl)
      have hB71 : ∀ (S1_71h : T2) (v3_71 : Int32) (v4_71 : Int32) (t0_71 : Int32) (H : Heap) (locs : List Loc) (ls : Array Slot), fX11_rent_71 (fX11_rent_24 p1 p2 n24) p1 p2 S1_71h v3_71 v4_71 t0_71 = some (r, u1) → va_P (dC, dI) vwCl (fl [(w_X11 ad (b1) cs S1_71h)]) H → va_D A (fl [(w_X11 ad (b1) cs S1_71h)]) → va_S A s.heap H locs → lv_has ls 6 [(0, .ref (ad b1)), (1, .int p1), (2, .int p2), (3, .int v3_71), (4, .int v4_71)] → W p l e (headSpec wsX11_rent ({ frames := 2, cells := 0, slots := 0, locals := 43 } : Room)).room s m ([.ref (ad b1), .int p1, .int p2] : List Value).toArray below meth c H locs 0 0 (MQ below (QI dC dI (tyL cs) A (fl [(w_X11 ad (b1) cs u1)]) r) ([.ref (ad b1), .int p1, .int p2] : List Value).toArray s 0 0 A) (F0 m 71 ls [.int t0_71]) := by
        intro S1_71h v3_71 v4_71 t0_71 H locs ls hR hP hD hS hl
        refine lv_istore (lv' := [(5, .int t0_71), (0, .ref (ad b1)), (1, .int p1), (2, .int p2), (3, .int v3_71), (4, .int v4_71)]) hx hb dX11_rent_71 hl (Nat.le_of_ble_eq_true rfl) rfl (fun ls hl => ?_)
        refine lv_iload hx hb dX11_rent_73 (lv_at hl 0 rfl) ?_
        refine lv_if_eq (tgt := 103) hx hb dX11_rent_75 (by decide) (fun c75 => ?_) (fun c75 => ?_)
        · replace hR := it_t hR c75
          exact hB103 S1_71h v3_71 v4_71 H _ ls hR hP hD hS (lv_sub hl [1, 2, 3, 4, 5] rfl)
        · replace hR := it_f hR c75
          refine lv_iload_n hx hb dX11_rent_78 rfl (lv_at hl 4 rfl) ?_
          refine lv_if_lt (tgt := 98) hx hb dX11_rent_79 (by decide) (fun c79 => ?_) (fun c79 => ?_)
          · replace hR := it_t hR c79
            exact hB98 S1_71h v4_71 H _ ls hR hP hD hS (lv_sub hl [1, 2, 3, 5] rfl)
          · replace hR := it_f hR c79
            refine lv_aload_n hx hb dX11_rent_82 rfl (lv_at hl 1 rfl) ?_
            refine lv_iload hx hb dX11_rent_83 (lv_at hl 5 rfl) ?_
            refine lv_iconst (v := 2) hx hb dX11_rent_85 ic_2 ?_
            replace hR := bd_e hR
            obtain ⟨q86, gq86, hR⟩ := hR
            refine cl_Vi (As := [.int v4_71, .int (2 : Int32)]) (rest := []) (L := [(w_X11 ad (b1) cs S1_71h)]) (L' := [(w_X11 ad (b1) cs S1_71h)]) (Wc := [(w_X11 ad (b1) cs S1_71h)]) (Wc' := [(w_X11 ad (b1) cs S1_71h)]) (is := [0]) (js := []) ⟨hx, hb, hml, hown, hts⟩ (k_X11_ofBicycle l dC dI cs ad (b1) H.size S1_71h v4_71 (2 : Int32) q86 gq86) (cwV 2 hts gX11_rent_X11_ofBicycle rfl rfl rfl cd_X11_ofBicycle ⟨Nat.le_of_ble_eq_true rfl, Nat.le_of_ble_eq_true rfl⟩) hK hP hD hS hA ⟨rfl, rfl, rfl, rfl, rfl, rfl⟩ (jn_nd (is := [0]) hD rfl rfl) 0 9 rfl rfl rfl rfl rfl hl.1 (Nat.le_of_ble_eq_true rfl) dX11_rent_86 (fun H86 locs86 hP' hD' hS' => ?_)
            replace hS := hS'
            replace hP : va_P (dC, dI) vwCl (fl [(w_X11 ad (b1) cs S1_71h)]) H86 := hP'
            replace hD : va_D A (fl [(w_X11 ad (b1) cs S1_71h)]) := hD'
            clear hP' hD' hS'
            refine lv_aload_n hx hb dX11_rent_89 rfl (lv_at hl 1 rfl) ?_
            refine lv_iload_n hx hb dX11_rent_90 rfl (lv_at hl 4 rfl) ?_
            refine lv_iconst (v := 2) hx hb dX11_rent_91 ic_2 ?_
            replace hR := bd_e hR
            obtain ⟨q92, gq92, hR⟩ := hR
            refine cl_Vi (As := [.int v3_71, .int (2 : Int32)]) (rest := [.int q86]) (L := [(w_X11 ad (b1) cs S1_71h)]) (L' := [(w_X11 ad (b1) cs S1_71h)]) (Wc := [(w_X11 ad (b1) cs S1_71h)]) (Wc' := [(w_X11 ad (b1) cs S1_71h)]) (is := [0]) (js := []) ⟨hx, hb, hml, hown, hts⟩ (k_X11_ofBicycle l dC dI cs ad (b1) H86.size S1_71h v3_71 (2 : Int32) q92 gq92) (cwV 2 hts gX11_rent_X11_ofBicycle rfl rfl rfl cd_X11_ofBicycle ⟨Nat.le_of_ble_eq_true rfl, Nat.le_of_ble_eq_true rfl⟩) hK hP hD hS hA ⟨rfl, rfl, rfl, rfl, rfl, rfl⟩ (jn_nd (is := [0]) hD rfl rfl) 0 9 rfl rfl rfl rfl rfl hl.1 (Nat.le_of_ble_eq_true rfl) dX11_rent_92 (fun H92 locs92 hP' hD' hS' => ?_)
            replace hS := hS'
            replace hP : va_P (dC, dI) vwCl (fl [(w_X11 ad (b1) cs S1_71h)]) H92 := hP'
            replace hD : va_D A (fl [(w_X11 ad (b1) cs S1_71h)]) := hD'
            clear hP' hD' hS'
            refine lv_icmp_ge (tgt := 103) hx hb dX11_rent_95 (by decide) (fun c95 => ?_) (fun c95 => ?_)
            · replace hR := it_t hR c95
              exact hB103 S1_71h v3_71 v4_71 H92 _ ls hR hP hD hS (lv_sub hl [1, 2, 3, 4, 5] rfl)
            · replace hR := it_f hR c95
              exact hB98 S1_71h v4_71 H92 _ ls hR hP hD hS (lv_sub hl [1, 2, 3, 5] rfl)
      have hB70 : ∀ (S1_70h : T2) (v3_70 : Int32) (v4_70 : Int32) (H : Heap) (locs : List Loc) (ls : Array Slot), fX11_rent_70 (fX11_rent_24 p1 p2 n24) p1 p2 S1_70h v3_70 v4_70 = some (r, u1) → va_P (dC, dI) vwCl (fl [(w_X11 ad (b1) cs S1_70h)]) H → va_D A (fl [(w_X11 ad (b1) cs S1_70h)]) → va_S A s.heap H locs → lv_has ls 6 [(0, .ref (ad b1)), (1, .int p1), (2, .int p2), (3, .int v3_70), (4, .int v4_70)] → W p l e (headSpec wsX11_rent ({ frames := 2, cells := 0, slots := 0, locals := 43 } : Room)).room s m ([.ref (ad b1), .int p1, .int p2] : List Value).toArray below meth c H locs 0 0 (MQ below (QI dC dI (tyL cs) A (fl [(w_X11 ad (b1) cs u1)]) r) ([.ref (ad b1), .int p1, .int p2] : List Value).toArray s 0 0 A) (F0 m 70 ls []) := by
        intro S1_70h v3_70 v4_70 H locs ls hR hP hD hS hl
        refine lv_iconst (v := 0) hx hb dX11_rent_70 ic_0 ?_
        exact hB71 S1_70h v3_70 v4_70 (0 : Int32) H _ ls hR hP hD hS (lv_sub hl [0, 1, 2, 3, 4] rfl)
      intro S1_24h v3_24 v4_24 H locs ls hR hP hD hS hl
      rw [fX11_rent_24] at hR
      refine lv_iload hx hb dX11_rent_24 (lv_at hl 4 rfl) ?_
      refine lv_aload_n hx hb dX11_rent_26 rfl (lv_at hl 0 rfl) ?_
      refine va_get (D := (dC, dI)) (ci := 9) (v := .ref (ad (b1 + 1))) (C := RX11) (T := TX11) (N := 14) hx hb hts hinX11 hown hK hP 0 rfl rfl 0 (by decide) hF7 (fun _ h9 => h9) rfl dX11_rent_27 ?_
      refine lv_iconst (v := 1) hx hb dX11_rent_30 ic_1 ?_
      refine va_iald hx hb hK hP 1 0 rfl rfl vi_1_206 dX11_rent_31 ?_
      refine lv_icmp_ge (tgt := 111) hx hb dX11_rent_32 (by decide) (fun c32 => ?_) (fun c32 => ?_)
      · replace hR := it_t hR c32
        refine lv_aload_n hx hb dX11_rent_111 rfl (lv_at hl 0 rfl) ?_
        refine lv_iload_n hx hb dX11_rent_112 rfl (lv_at hl 1 rfl) ?_
        replace hR := bd_e hR
        obtain ⟨q113, gq113, hR⟩ := hR
        refine cl_Vi (As := [.int p1]) (rest := []) (L := [(w_X11 ad (b1) cs S1_24h)]) (L' := [(w_X11 ad (b1) cs S1_24h)]) (Wc := [(w_X11 ad (b1) cs S1_24h)]) (Wc' := [(w_X11 ad (b1) cs S1_24h)]) (is := [0]) (js := []) ⟨hx, hb, hml, hown, hts⟩ (k_X11_rides l dC dI cs ad (b1) H.size S1_24h p1 q113 gq113) (cwV 1 hts gX11_rent_X11_rides rfl rfl rfl cd_X11_rides ⟨Nat.le_of_ble_eq_true rfl, Nat.le_of_ble_eq_true rfl⟩) hK hP hD hS hA ⟨rfl, rfl, rfl, rfl, rfl, rfl⟩ (jn_nd (is := [0]) hD rfl rfl) 0 9 rfl rfl rfl rfl rfl hl.1 (Nat.le_of_ble_eq_true rfl) dX11_rent_113 (fun H113 locs113 hP' hD' hS' => ?_)
        replace hS := hS'
        replace hP : va_P (dC, dI) vwCl (fl [(w_X11 ad (b1) cs S1_24h)]) H113 := hP'
        replace hD : va_D A (fl [(w_X11 ad (b1) cs S1_24h)]) := hD'
        clear hP' hD' hS'
        refine lv_if_ne (tgt := 123) hx hb dX11_rent_116 (by decide) (fun c116 => ?_) (fun c116 => ?_)
        · replace hR := it_f hR c116
          refine lv_bipush (v := (-2)) hx hb dX11_rent_123 bp_m2 ?_
          replace hR := Option.some.inj hR
          obtain ⟨e9, hR⟩ := Prod.mk.inj hR
          have eu1 := hR
          replace hP : va_P (dC, dI) vwCl (fl [(w_X11 ad (b1) cs u1)]) H113 := by rw [← eu1]; exact hP
          replace hD : va_D A (fl [(w_X11 ad (b1) cs u1)]) := by rw [← eu1]; exact hD
          exact W.iret hx hb hr (fun t ht hW => ⟨⟨_, (), rfl, e9, by rw [ht]; exact hP, va_K.moved hW.alike hK, hD⟩, hS.F ht⟩) hS.2.2 dX11_rent_125
        · replace hR := it_t hR c116
          refine lv_iload_n hx hb dX11_rent_119 rfl (lv_at hl 3 rfl) ?_
          refine lv_if_ge (tgt := 126) hx hb dX11_rent_120 (by decide) (fun c120 => ?_) (fun c120 => ?_)
          · replace hR := it_t hR c120
            refine lv_aload_n hx hb dX11_rent_126 rfl (lv_at hl 0 rfl) ?_
            replace hR := bd_e hR
            obtain ⟨q127, gq127, hR⟩ := hR
            refine cl_Vv (As := []) (rest := []) (L := [(w_X11 ad (b1) cs S1_24h)]) (L' := [(w_X11 ad (b1) cs q127)]) (Wc := [(w_X11 ad (b1) cs S1_24h)]) (Wc' := [(w_X11 ad (b1) cs q127)]) (is := [0]) (js := []) ⟨hx, hb, hml, hown, hts⟩ (k_X11_changes l dC dI cs ad (b1) H113.size S1_24h q127 gq127) (cwV 0 hts gX11_rent_X11_changes rfl rfl rfl cd_X11_changes ⟨Nat.le_of_ble_eq_true rfl, Nat.le_of_ble_eq_true rfl⟩) hK hP hD hS hA ⟨rfl, rfl, rfl, rfl, rfl, rfl⟩ (jn_nd (is := [0]) hD rfl rfl) 0 9 rfl rfl rfl rfl rfl hl.1 (Nat.le_of_ble_eq_true rfl) dX11_rent_127 (fun H127 locs127 hP' hD' hS' => ?_)
            replace hS := hS'
            replace hP : va_P (dC, dI) vwCl (fl [(w_X11 ad (b1) cs q127)]) H127 := hP'
            replace hD : va_D A (fl [(w_X11 ad (b1) cs q127)]) := hD'
            clear hP' hD' hS'
            refine lv_aload_n hx hb dX11_rent_130 rfl (lv_at hl 0 rfl) ?_
            refine lv_iload_n hx hb dX11_rent_131 rfl (lv_at hl 3 rfl) ?_
            refine lv_iconst (v := 1) hx hb dX11_rent_132 ic_1 ?_
            refine lv_iload_n hx hb dX11_rent_133 rfl (lv_at hl 1 rfl) ?_
            replace hR := bd_e hR
            obtain ⟨q134, gq134, hR⟩ := hR
            refine cl_Vv (As := [.int v3_24, .int (1 : Int32), .int p1]) (rest := []) (L := [(w_X11 ad (b1) cs q127)]) (L' := [(w_X11 ad (b1) cs q134)]) (Wc := [(w_X11 ad (b1) cs q127)]) (Wc' := [(w_X11 ad (b1) cs q134)]) (is := [0]) (js := []) ⟨hx, hb, hml, hown, hts⟩ (k_X11_puts l dC dI cs ad (b1) H127.size q127 v3_24 (1 : Int32) p1 q134 gq134) (cwV 3 hts gX11_rent_X11_puts rfl rfl rfl cd_X11_puts ⟨Nat.le_of_ble_eq_true rfl, Nat.le_of_ble_eq_true rfl⟩) hK hP hD hS hA ⟨rfl, rfl, rfl, rfl, rfl, rfl⟩ (jn_nd (is := [0]) hD rfl rfl) 0 9 rfl rfl rfl rfl rfl hl.1 (Nat.le_of_ble_eq_true rfl) dX11_rent_134 (fun H134 locs134 hP' hD' hS' => ?_)
            replace hS := hS'
            replace hP : va_P (dC, dI) vwCl (fl [(w_X11 ad (b1) cs q134)]) H134 := hP'
            replace hD : va_D A (fl [(w_X11 ad (b1) cs q134)]) := hD'
            clear hP' hD' hS'
            refine lv_sipush (v := 128) hx hb dX11_rent_137 sp_128 ?_
            refine lv_bipush (v := 9) hx hb dX11_rent_140 bp_9 ?_
            refine lv_iload_n hx hb dX11_rent_142 rfl (lv_at hl 1 rfl) ?_
            refine lv_imul hx hb dX11_rent_143 ?_
            refine lv_iadd hx hb dX11_rent_144 ?_
            refine lv_istore (lv' := [(4, .int ((128 : Int32) + ((9 : Int32) * p1))), (0, .ref (ad b1)), (1, .int p1), (2, .int p2), (3, .int v3_24)]) hx hb dX11_rent_145 hl (Nat.le_of_ble_eq_true rfl) rfl (fun ls hl => ?_)
            refine lv_aload_n hx hb dX11_rent_147 rfl (lv_at hl 1 rfl) ?_
            refine va_get (D := (dC, dI)) (ci := 9) (v := .ref (ad (b1 + 1))) (C := RX11) (T := TX11) (N := 14) hx hb hts hinX11 hown hK hP 0 rfl rfl 0 (by decide) hF7 (fun _ h9 => h9) rfl dX11_rent_148 ?_
            refine lv_iload hx hb dX11_rent_151 (lv_at hl 0 rfl) ?_
            refine lv_iconst (v := 2) hx hb dX11_rent_153 ic_2 ?_
            refine lv_iadd hx hb dX11_rent_154 ?_
            refine lv_iload_n hx hb dX11_rent_155 rfl (lv_at hl 4 rfl) ?_
            replace hR := gi_e hR
            obtain ⟨i156, hR⟩ := hR
            refine va_iast hx hb hK hP hD hS 1 0 rfl rfl i156 dX11_rent_156 (fun H156 locs156 hP' hD' hS' => ?_)
            replace hS := hS'
            have hP' : va_P (dC, dI) vwCl (fl [(w_X11 ad (b1) cs (sU q134 0 (sU (q134 0) (((128 : Int32) + ((9 : Int32) * p1)) + 2).toNatClampNeg v3_24)))]) H156 := hP'
            have hD' : va_D A (fl [(w_X11 ad (b1) cs (sU q134 0 (sU (q134 0) (((128 : Int32) + ((9 : Int32) * p1)) + 2).toNatClampNeg v3_24)))]) := hD'
            replace hR := bn_e hR
            obtain ⟨S1_156, eS1_156, hR⟩ := hR
            replace hP : va_P (dC, dI) vwCl (fl [(w_X11 ad (b1) cs S1_156)]) H156 := by rw [eS1_156]; exact hP'
            replace hD : va_D A (fl [(w_X11 ad (b1) cs S1_156)]) := by rw [eS1_156]; exact hD'
            clear hP' hD' hS'
            refine lv_aload_n hx hb dX11_rent_157 rfl (lv_at hl 1 rfl) ?_
            refine va_get (D := (dC, dI)) (ci := 9) (v := .ref (ad (b1 + 1))) (C := RX11) (T := TX11) (N := 14) hx hb hts hinX11 hown hK hP 0 rfl rfl 0 (by decide) hF7 (fun _ h9 => h9) rfl dX11_rent_158 ?_
            refine lv_iload hx hb dX11_rent_161 (lv_at hl 0 rfl) ?_
            refine lv_iconst (v := 3) hx hb dX11_rent_163 ic_3 ?_
            refine lv_iadd hx hb dX11_rent_164 ?_
            refine lv_aload_n hx hb dX11_rent_165 rfl (lv_at hl 1 rfl) ?_
            refine va_get (D := (dC, dI)) (ci := 9) (v := .ref (ad (b1 + 1))) (C := RX11) (T := TX11) (N := 14) hx hb hts hinX11 hown hK hP 0 rfl rfl 0 (by decide) hF7 (fun _ h9 => h9) rfl dX11_rent_166 ?_
            refine lv_iconst (v := 4) hx hb dX11_rent_169 ic_4 ?_
            refine va_iald hx hb hK hP 1 0 rfl rfl vi_4_206 dX11_rent_170 ?_
            replace hR := gi_e hR
            obtain ⟨i171, hR⟩ := hR
            refine va_iast hx hb hK hP hD hS 1 0 rfl rfl i171 dX11_rent_171 (fun H171 locs171 hP' hD' hS' => ?_)
            replace hS := hS'
            have hP' : va_P (dC, dI) vwCl (fl [(w_X11 ad (b1) cs (sU S1_156 0 (sU (S1_156 0) (((128 : Int32) + ((9 : Int32) * p1)) + 3).toNatClampNeg (S1_156 0 (4 : Int32).toNatClampNeg))))]) H171 := hP'
            have hD' : va_D A (fl [(w_X11 ad (b1) cs (sU S1_156 0 (sU (S1_156 0) (((128 : Int32) + ((9 : Int32) * p1)) + 3).toNatClampNeg (S1_156 0 (4 : Int32).toNatClampNeg))))]) := hD'
            replace hR := bn_e hR
            obtain ⟨S1_171, eS1_171, hR⟩ := hR
            replace hP : va_P (dC, dI) vwCl (fl [(w_X11 ad (b1) cs S1_171)]) H171 := by rw [eS1_171]; exact hP'
            replace hD : va_D A (fl [(w_X11 ad (b1) cs S1_171)]) := by rw [eS1_171]; exact hD'
            clear hP' hD' hS'
            refine lv_aload_n hx hb dX11_rent_172 rfl (lv_at hl 1 rfl) ?_
            refine va_get (D := (dC, dI)) (ci := 9) (v := .ref (ad (b1 + 1))) (C := RX11) (T := TX11) (N := 14) hx hb hts hinX11 hown hK hP 0 rfl rfl 0 (by decide) hF7 (fun _ h9 => h9) rfl dX11_rent_173 ?_
            refine lv_iload hx hb dX11_rent_176 (lv_at hl 0 rfl) ?_
            refine lv_iconst (v := 5) hx hb dX11_rent_178 ic_5 ?_
            refine lv_iadd hx hb dX11_rent_179 ?_
            refine lv_aload_n hx hb dX11_rent_180 rfl (lv_at hl 1 rfl) ?_
            refine lv_iload_n hx hb dX11_rent_181 rfl (lv_at hl 2 rfl) ?_
            replace hR := bd_e hR
            obtain ⟨q182, gq182, hR⟩ := hR
            refine cl_Vi (As := [.int p1]) (rest := [.int (((128 : Int32) + ((9 : Int32) * p1)) + 5), .ref (ad (b1 + 1))]) (L := [(w_X11 ad (b1) cs S1_171)]) (L' := [(w_X11 ad (b1) cs S1_171)]) (Wc := [(w_X11 ad (b1) cs S1_171)]) (Wc' := [(w_X11 ad (b1) cs S1_171)]) (is := [0]) (js := []) ⟨hx, hb, hml, hown, hts⟩ (k_X11_hasPass l dC dI cs ad (b1) H171.size S1_171 p1 q182 gq182) (cwV 1 hts gX11_rent_X11_hasPass rfl rfl rfl cd_X11_hasPass ⟨Nat.le_of_ble_eq_true rfl, Nat.le_of_ble_eq_true rfl⟩) hK hP hD hS hA ⟨rfl, rfl, rfl, rfl, rfl, rfl⟩ (jn_nd (is := [0]) hD rfl rfl) 0 9 rfl rfl rfl rfl rfl hl.1 (Nat.le_of_ble_eq_true rfl) dX11_rent_182 (fun H182 locs182 hP' hD' hS' => ?_)
            replace hS := hS'
            replace hP : va_P (dC, dI) vwCl (fl [(w_X11 ad (b1) cs S1_171)]) H182 := hP'
            replace hD : va_D A (fl [(w_X11 ad (b1) cs S1_171)]) := hD'
            clear hP' hD' hS'
            refine lv_if_eq (tgt := 192) hx hb dX11_rent_185 (by decide) (fun c185 => ?_) (fun c185 => ?_)
            · replace hR := it_t hR c185
              refine lv_iconst (v := 0) hx hb dX11_rent_192 ic_0 ?_
              exact hB193 S1_171 v3_24 ((128 : Int32) + ((9 : Int32) * p1)) (((128 : Int32) + ((9 : Int32) * p1)) + 5) (0 : Int32) H182 _ ls hR hP hD hS (lv_sub hl [1, 2, 3, 4, 0] rfl)
            · replace hR := it_f hR c185
              refine lv_iconst (v := 1) hx hb dX11_rent_188 ic_1 ?_
              refine lv_goto (tgt := 193) hx hb dX11_rent_189 (by decide) ?_
              exact hB193 S1_171 v3_24 ((128 : Int32) + ((9 : Int32) * p1)) (((128 : Int32) + ((9 : Int32) * p1)) + 5) (1 : Int32) H182 _ ls hR hP hD hS (lv_sub hl [1, 2, 3, 4, 0] rfl)
          · replace hR := it_f hR c120
            refine lv_bipush (v := (-2)) hx hb dX11_rent_123 bp_m2 ?_
            replace hR := Option.some.inj hR
            obtain ⟨e9, hR⟩ := Prod.mk.inj hR
            have eu1 := hR
            replace hP : va_P (dC, dI) vwCl (fl [(w_X11 ad (b1) cs u1)]) H113 := by rw [← eu1]; exact hP
            replace hD : va_D A (fl [(w_X11 ad (b1) cs u1)]) := by rw [← eu1]; exact hD
            exact W.iret hx hb hr (fun t ht hW => ⟨⟨_, (), rfl, e9, by rw [ht]; exact hP, va_K.moved hW.alike hK, hD⟩, hS.F ht⟩) hS.2.2 dX11_rent_125
      · replace hR := it_f hR c32
        refine lv_aload_n hx hb dX11_rent_35 rfl (lv_at hl 0 rfl) ?_
        refine lv_iload hx hb dX11_rent_36 (lv_at hl 4 rfl) ?_
        refine lv_iconst (v := 0) hx hb dX11_rent_38 ic_0 ?_
        replace hR := bd_e hR
        obtain ⟨q39, gq39, hR⟩ := hR
        refine cl_Vi (As := [.int v4_24, .int (0 : Int32)]) (rest := []) (L := [(w_X11 ad (b1) cs S1_24h)]) (L' := [(w_X11 ad (b1) cs S1_24h)]) (Wc := [(w_X11 ad (b1) cs S1_24h)]) (Wc' := [(w_X11 ad (b1) cs S1_24h)]) (is := [0]) (js := []) ⟨hx, hb, hml, hown, hts⟩ (k_X11_ofBicycle l dC dI cs ad (b1) H.size S1_24h v4_24 (0 : Int32) q39 gq39) (cwV 2 hts gX11_rent_X11_ofBicycle rfl rfl rfl cd_X11_ofBicycle ⟨Nat.le_of_ble_eq_true rfl, Nat.le_of_ble_eq_true rfl⟩) hK hP hD hS hA ⟨rfl, rfl, rfl, rfl, rfl, rfl⟩ (jn_nd (is := [0]) hD rfl rfl) 0 9 rfl rfl rfl rfl rfl hl.1 (Nat.le_of_ble_eq_true rfl) dX11_rent_39 (fun H39 locs39 hP' hD' hS' => ?_)
        replace hS := hS'
        replace hP : va_P (dC, dI) vwCl (fl [(w_X11 ad (b1) cs S1_24h)]) H39 := hP'
        replace hD : va_D A (fl [(w_X11 ad (b1) cs S1_24h)]) := hD'
        clear hP' hD' hS'
        refine lv_if_ne (tgt := 70) hx hb dX11_rent_42 (by decide) (fun c42 => ?_) (fun c42 => ?_)
        · replace hR := it_f hR c42
          exact hB70 S1_24h v3_24 v4_24 H39 _ ls hR hP hD hS (lv_sub hl [0, 1, 2, 3, 4] rfl)
        · replace hR := it_t hR c42
          refine lv_aload_n hx hb dX11_rent_45 rfl (lv_at hl 0 rfl) ?_
          refine lv_iload hx hb dX11_rent_46 (lv_at hl 4 rfl) ?_
          refine lv_iconst (v := 1) hx hb dX11_rent_48 ic_1 ?_
          replace hR := bd_e hR
          obtain ⟨q49, gq49, hR⟩ := hR
          refine cl_Vi (As := [.int v4_24, .int (1 : Int32)]) (rest := []) (L := [(w_X11 ad (b1) cs S1_24h)]) (L' := [(w_X11 ad (b1) cs S1_24h)]) (Wc := [(w_X11 ad (b1) cs S1_24h)]) (Wc' := [(w_X11 ad (b1) cs S1_24h)]) (is := [0]) (js := []) ⟨hx, hb, hml, hown, hts⟩ (k_X11_ofBicycle l dC dI cs ad (b1) H39.size S1_24h v4_24 (1 : Int32) q49 gq49) (cwV 2 hts gX11_rent_X11_ofBicycle rfl rfl rfl cd_X11_ofBicycle ⟨Nat.le_of_ble_eq_true rfl, Nat.le_of_ble_eq_true rfl⟩) hK hP hD hS hA ⟨rfl, rfl, rfl, rfl, rfl, rfl⟩ (jn_nd (is := [0]) hD rfl rfl) 0 9 rfl rfl rfl rfl rfl hl.1 (Nat.le_of_ble_eq_true rfl) dX11_rent_49 (fun H49 locs49 hP' hD' hS' => ?_)
          replace hS := hS'
          replace hP : va_P (dC, dI) vwCl (fl [(w_X11 ad (b1) cs S1_24h)]) H49 := hP'
          replace hD : va_D A (fl [(w_X11 ad (b1) cs S1_24h)]) := hD'
          clear hP' hD' hS'
          refine lv_iload_n hx hb dX11_rent_52 rfl (lv_at hl 2 rfl) ?_
          refine lv_icmp_ne (tgt := 70) hx hb dX11_rent_53 (by decide) (fun c53 => ?_) (fun c53 => ?_)
          · replace hR := it_f hR c53
            exact hB70 S1_24h v3_24 v4_24 H49 _ ls hR hP hD hS (lv_sub hl [0, 1, 2, 3, 4] rfl)
          · replace hR := it_t hR c53
            refine lv_aload_n hx hb dX11_rent_56 rfl (lv_at hl 0 rfl) ?_
            refine lv_iload hx hb dX11_rent_57 (lv_at hl 4 rfl) ?_
            refine lv_iconst (v := 3) hx hb dX11_rent_59 ic_3 ?_
            replace hR := bd_e hR
            obtain ⟨q60, gq60, hR⟩ := hR
            refine cl_Vi (As := [.int v4_24, .int (3 : Int32)]) (rest := []) (L := [(w_X11 ad (b1) cs S1_24h)]) (L' := [(w_X11 ad (b1) cs S1_24h)]) (Wc := [(w_X11 ad (b1) cs S1_24h)]) (Wc' := [(w_X11 ad (b1) cs S1_24h)]) (is := [0]) (js := []) ⟨hx, hb, hml, hown, hts⟩ (k_X11_ofBicycle l dC dI cs ad (b1) H49.size S1_24h v4_24 (3 : Int32) q60 gq60) (cwV 2 hts gX11_rent_X11_ofBicycle rfl rfl rfl cd_X11_ofBicycle ⟨Nat.le_of_ble_eq_true rfl, Nat.le_of_ble_eq_true rfl⟩) hK hP hD hS hA ⟨rfl, rfl, rfl, rfl, rfl, rfl⟩ (jn_nd (is := [0]) hD rfl rfl) 0 9 rfl rfl rfl rfl rfl hl.1 (Nat.le_of_ble_eq_true rfl) dX11_rent_60 (fun H60 locs60 hP' hD' hS' => ?_)
            replace hS := hS'
            replace hP : va_P (dC, dI) vwCl (fl [(w_X11 ad (b1) cs S1_24h)]) H60 := hP'
            replace hD : va_D A (fl [(w_X11 ad (b1) cs S1_24h)]) := hD'
            clear hP' hD' hS'
            refine lv_if_ne (tgt := 70) hx hb dX11_rent_63 (by decide) (fun c63 => ?_) (fun c63 => ?_)
            · replace hR := it_f hR c63
              exact hB70 S1_24h v3_24 v4_24 H60 _ ls hR hP hD hS (lv_sub hl [0, 1, 2, 3, 4] rfl)
            · replace hR := it_t hR c63
              refine lv_iconst (v := 1) hx hb dX11_rent_66 ic_1 ?_
              refine lv_goto (tgt := 71) hx hb dX11_rent_67 (by decide) ?_
              exact hB71 S1_24h v3_24 v4_24 (1 : Int32) H60 _ ls hR hP hD hS (lv_sub hl [0, 1, 2, 3, 4] rfl)
  refine lv_aload_n hx hb dX11_rent_0 rfl (lv_at hl 0 rfl) ?_
  refine lv_iload_n hx hb dX11_rent_1 rfl (lv_at hl 1 rfl) ?_
  replace hR := bd_e hR
  obtain ⟨q2, gq2, hR⟩ := hR
  refine cl_Vi (As := [.int p1]) (rest := []) (L := [(w_X11 ad (b1) cs S1)]) (L' := [(w_X11 ad (b1) cs S1)]) (Wc := [(w_X11 ad (b1) cs S1)]) (Wc' := [(w_X11 ad (b1) cs S1)]) (is := [0]) (js := []) ⟨hx, hb, hml, hown, hts⟩ (k_X11_isRider l dC dI cs ad (b1) s.heap.size S1 p1 q2 gq2) (cwV 1 hts gX11_rent_X11_isRider rfl rfl rfl cd_X11_isRider ⟨Nat.le_of_ble_eq_true rfl, Nat.le_of_ble_eq_true rfl⟩) hK hP hD hS hA ⟨rfl, rfl, rfl, rfl, rfl, rfl⟩ (jn_nd (is := [0]) hD rfl rfl) 0 9 rfl rfl rfl rfl rfl hl.1 (Nat.le_of_ble_eq_true rfl) dX11_rent_2 (fun H2 locs2 hP' hD' hS' => ?_)
  replace hS := hS'
  replace hP : va_P (dC, dI) vwCl (fl [(w_X11 ad (b1) cs S1)]) H2 := hP'
  replace hD : va_D A (fl [(w_X11 ad (b1) cs S1)]) := hD'
  clear hP' hD' hS'
  refine lv_if_eq (tgt := 16) hx hb dX11_rent_5 (by decide) (fun c5 => ?_) (fun c5 => ?_)
  · replace hR := it_t hR c5
    refine lv_iconst (v := (-1)) hx hb dX11_rent_16 ic_m1 ?_
    replace hR := Option.some.inj hR
    obtain ⟨e9, hR⟩ := Prod.mk.inj hR
    have eu1 := hR
    replace hP : va_P (dC, dI) vwCl (fl [(w_X11 ad (b1) cs u1)]) H2 := by rw [← eu1]; exact hP
    replace hD : va_D A (fl [(w_X11 ad (b1) cs u1)]) := by rw [← eu1]; exact hD
    exact W.iret hx hb hr (fun t ht hW => ⟨⟨_, (), rfl, e9, by rw [ht]; exact hP, va_K.moved hW.alike hK, hD⟩, hS.F ht⟩) hS.2.2 dX11_rent_17
  · replace hR := it_f hR c5
    refine lv_aload_n hx hb dX11_rent_8 rfl (lv_at hl 0 rfl) ?_
    refine lv_iload_n hx hb dX11_rent_9 rfl (lv_at hl 2 rfl) ?_
    replace hR := bd_e hR
    obtain ⟨q10, gq10, hR⟩ := hR
    refine cl_Vi (As := [.int p2]) (rest := []) (L := [(w_X11 ad (b1) cs S1)]) (L' := [(w_X11 ad (b1) cs S1)]) (Wc := [(w_X11 ad (b1) cs S1)]) (Wc' := [(w_X11 ad (b1) cs S1)]) (is := [0]) (js := []) ⟨hx, hb, hml, hown, hts⟩ (k_X11_isStation l dC dI cs ad (b1) H2.size S1 p2 q10 gq10) (cwV 1 hts gX11_rent_X11_isStation rfl rfl rfl cd_X11_isStation ⟨Nat.le_of_ble_eq_true rfl, Nat.le_of_ble_eq_true rfl⟩) hK hP hD hS hA ⟨rfl, rfl, rfl, rfl, rfl, rfl⟩ (jn_nd (is := [0]) hD rfl rfl) 0 9 rfl rfl rfl rfl rfl hl.1 (Nat.le_of_ble_eq_true rfl) dX11_rent_10 (fun H10 locs10 hP' hD' hS' => ?_)
    replace hS := hS'
    replace hP : va_P (dC, dI) vwCl (fl [(w_X11 ad (b1) cs S1)]) H10 := hP'
    replace hD : va_D A (fl [(w_X11 ad (b1) cs S1)]) := hD'
    clear hP' hD' hS'
    refine lv_if_ne (tgt := 18) hx hb dX11_rent_13 (by decide) (fun c13 => ?_) (fun c13 => ?_)
    · replace hR := it_f hR c13
      refine lv_bipush (v := (-4)) hx hb dX11_rent_18 bp_m4 ?_
      refine lv_istore_n (lv' := [(3, .int (-4)), (0, .ref (ad b1)), (1, .int p1), (2, .int p2)]) hx hb dX11_rent_20 rfl hl (Nat.le_of_ble_eq_true rfl) rfl (fun ls hl => ?_)
      refine lv_iconst (v := 0) hx hb dX11_rent_21 ic_0 ?_
      refine lv_istore (lv' := [(4, .int (0 : Int32)), (3, .int (-4)), (0, .ref (ad b1)), (1, .int p1), (2, .int p2)]) hx hb dX11_rent_22 hl (Nat.le_of_ble_eq_true rfl) rfl (fun ls hl => ?_)
      exact hB24 fuel S1 (-4) (0 : Int32) H10 _ ls hR hP hD hS (lv_sub hl [2, 3, 4, 1, 0] rfl)
    · replace hR := it_t hR c13
      refine lv_iconst (v := (-1)) hx hb dX11_rent_16 ic_m1 ?_
      replace hR := Option.some.inj hR
      obtain ⟨e9, hR⟩ := Prod.mk.inj hR
      have eu1 := hR
      replace hP : va_P (dC, dI) vwCl (fl [(w_X11 ad (b1) cs u1)]) H10 := by rw [← eu1]; exact hP
      replace hD : va_D A (fl [(w_X11 ad (b1) cs u1)]) := by rw [← eu1]; exact hD
      exact W.iret hx hb hr (fun t ht hW => ⟨⟨_, (), rfl, e9, by rw [ht]; exact hP, va_K.moved hW.alike hK, hD⟩, hS.F ht⟩) hS.2.2 dX11_rent_17
set_option maxHeartbeats 8000000 in
set_option maxRecDepth 100000 in
theorem k_X11_fee (l : Launch) (dC : Nat → ClassId) (dI : Nat → Nat → Nat) (cs : Nat → ClassId) (ad : Nat → Nat) (b1 : Nat) (sz : Nat) (S1 : T2) (p1 : Int32) (r : Int32) (hR : fX11_fee S1 p1 = some r) : Met l yX11_fee wsX11_fee ({ frames := 1, cells := 0, slots := 0, locals := 22 } : Room) (va_Pc [.ref (ad b1), .int p1] (pW dC dI (tyL cs) (fl [(w_X11 ad (b1) cs S1)]) sz)) (QI dC dI (tyL cs) (va_A (fl [(w_X11 ad (b1) cs S1)]) sz) (fl [(w_X11 ad (b1) cs S1)]) r) 0 0 (va_A (fl [(w_X11 ad (b1) cs S1)]) sz) := by
  refine mt_of (own := RX11) (cc := cX11_fee) (maxL := 3) (ret := (some .int)) (Qc := fun A => QI dC dI (tyL cs) A (fl [(w_X11 ad (b1) cs S1)]) r) rfl (by decide) rfl (Nat.le_of_ble_eq_true rfl) (fun p e s m below meth c A ls hsz hx hb hr hts hown hlocks hml hA hK hP hD hS hl => ?_)
  subst hsz
  have hl : lv_has ls 3 [(0, .ref (ad b1)), (1, .int p1)] := hl
  have hF7 := hts (.fieldLink RX11 7 "DockedBikesModel" "s" "[I") (List.mem_of_getElem? (i := 1) rfl)
  have hinX11 : ∀ w ∈ wsX110, w ∈ wsX11_fee := by decide +kernel
  have hB34 : ∀ (t0_34 : Int32) (H : Heap) (locs : List Loc) (ls : Array Slot), fX11_fee_34 S1 p1 t0_34 = some r → va_P (dC, dI) vwCl (fl [(w_X11 ad (b1) cs S1)]) H → va_D A (fl [(w_X11 ad (b1) cs S1)]) → va_S A s.heap H locs → lv_has ls 3 [(0, .ref (ad b1)), (1, .int p1)] → W p l e (headSpec wsX11_fee ({ frames := 1, cells := 0, slots := 0, locals := 22 } : Room)).room s m ([.ref (ad b1), .int p1] : List Value).toArray below meth c H locs 0 0 (MQ below (QI dC dI (tyL cs) A (fl [(w_X11 ad (b1) cs S1)]) r) ([.ref (ad b1), .int p1] : List Value).toArray s 0 0 A) (F0 m 34 ls [.int t0_34]) := by
    intro t0_34 H locs ls hR hP hD hS hl
    refine lv_iconst (v := 1) hx hb dX11_fee_34 ic_1 ?_
    refine lv_iadd hx hb dX11_fee_35 ?_
    refine lv_aload_n hx hb dX11_fee_36 rfl (lv_at hl 0 rfl) ?_
    refine lv_iload_n hx hb dX11_fee_37 rfl (lv_at hl 1 rfl) ?_
    refine lv_iconst (v := 5) hx hb dX11_fee_38 ic_5 ?_
    replace hR := bd_e hR
    obtain ⟨q39, gq39, hR⟩ := hR
    refine cl_Vi (As := [.int p1, .int (5 : Int32)]) (rest := [.int (t0_34 + 1)]) (L := [(w_X11 ad (b1) cs S1)]) (L' := [(w_X11 ad (b1) cs S1)]) (Wc := [(w_X11 ad (b1) cs S1)]) (Wc' := [(w_X11 ad (b1) cs S1)]) (is := [0]) (js := []) ⟨hx, hb, hml, hown, hts⟩ (k_X11_ofRider l dC dI cs ad (b1) H.size S1 p1 (5 : Int32) q39 gq39) (cwV 2 hts gX11_fee_X11_ofRider rfl rfl rfl cd_X11_ofRider ⟨Nat.le_of_ble_eq_true rfl, Nat.le_of_ble_eq_true rfl⟩) hK hP hD hS hA ⟨rfl, rfl, rfl, rfl, rfl, rfl⟩ (jn_nd (is := [0]) hD rfl rfl) 0 9 rfl rfl rfl rfl rfl hl.1 (Nat.le_of_ble_eq_true rfl) dX11_fee_39 (fun H39 locs39 hP' hD' hS' => ?_)
    replace hS := hS'
    replace hP : va_P (dC, dI) vwCl (fl [(w_X11 ad (b1) cs S1)]) H39 := hP'
    replace hD : va_D A (fl [(w_X11 ad (b1) cs S1)]) := hD'
    clear hP' hD' hS'
    refine lv_isub hx hb dX11_fee_42 ?_
    replace hR := Option.some.inj hR
    have e9 := hR
    exact W.iret hx hb hr (fun t ht hW => ⟨⟨_, (), rfl, e9, by rw [ht]; exact hP, va_K.moved hW.alike hK, hD⟩, hS.F ht⟩) hS.2.2 dX11_fee_43
  refine lv_aload_n hx hb dX11_fee_0 rfl (lv_at hl 0 rfl) ?_
  refine va_get (D := (dC, dI)) (ci := 9) (v := .ref (ad (b1 + 1))) (C := RX11) (T := TX11) (N := 14) hx hb hts hinX11 hown hK hP 0 rfl rfl 0 (by decide) hF7 (fun _ h9 => h9) rfl dX11_fee_1 ?_
  refine lv_iconst (v := 4) hx hb dX11_fee_4 ic_4 ?_
  refine va_iald hx hb hK hP 1 0 rfl rfl vi_4_206 dX11_fee_5 ?_
  refine lv_aload_n hx hb dX11_fee_6 rfl (lv_at hl 0 rfl) ?_
  refine lv_iload_n hx hb dX11_fee_7 rfl (lv_at hl 1 rfl) ?_
  refine lv_iconst (v := 3) hx hb dX11_fee_8 ic_3 ?_
  replace hR := bd_e hR
  obtain ⟨q9, gq9, hR⟩ := hR
  refine cl_Vi (As := [.int p1, .int (3 : Int32)]) (rest := [.int (S1 0 (4 : Int32).toNatClampNeg)]) (L := [(w_X11 ad (b1) cs S1)]) (L' := [(w_X11 ad (b1) cs S1)]) (Wc := [(w_X11 ad (b1) cs S1)]) (Wc' := [(w_X11 ad (b1) cs S1)]) (is := [0]) (js := []) ⟨hx, hb, hml, hown, hts⟩ (k_X11_ofRider l dC dI cs ad (b1) s.heap.size S1 p1 (3 : Int32) q9 gq9) (cwV 2 hts gX11_fee_X11_ofRider rfl rfl rfl cd_X11_ofRider ⟨Nat.le_of_ble_eq_true rfl, Nat.le_of_ble_eq_true rfl⟩) hK hP hD hS hA ⟨rfl, rfl, rfl, rfl, rfl, rfl⟩ (jn_nd (is := [0]) hD rfl rfl) 0 9 rfl rfl rfl rfl rfl hl.1 (Nat.le_of_ble_eq_true rfl) dX11_fee_9 (fun H9 locs9 hP' hD' hS' => ?_)
  replace hS := hS'
  replace hP : va_P (dC, dI) vwCl (fl [(w_X11 ad (b1) cs S1)]) H9 := hP'
  replace hD : va_D A (fl [(w_X11 ad (b1) cs S1)]) := hD'
  clear hP' hD' hS'
  refine lv_isub hx hb dX11_fee_12 ?_
  refine lv_aload_n hx hb dX11_fee_13 rfl (lv_at hl 0 rfl) ?_
  refine lv_iload_n hx hb dX11_fee_14 rfl (lv_at hl 1 rfl) ?_
  refine lv_iconst (v := 4) hx hb dX11_fee_15 ic_4 ?_
  replace hR := bd_e hR
  obtain ⟨q16, gq16, hR⟩ := hR
  refine cl_Vi (As := [.int p1, .int (4 : Int32)]) (rest := [.int ((S1 0 (4 : Int32).toNatClampNeg) - q9)]) (L := [(w_X11 ad (b1) cs S1)]) (L' := [(w_X11 ad (b1) cs S1)]) (Wc := [(w_X11 ad (b1) cs S1)]) (Wc' := [(w_X11 ad (b1) cs S1)]) (is := [0]) (js := []) ⟨hx, hb, hml, hown, hts⟩ (k_X11_ofRider l dC dI cs ad (b1) H9.size S1 p1 (4 : Int32) q16 gq16) (cwV 2 hts gX11_fee_X11_ofRider rfl rfl rfl cd_X11_ofRider ⟨Nat.le_of_ble_eq_true rfl, Nat.le_of_ble_eq_true rfl⟩) hK hP hD hS hA ⟨rfl, rfl, rfl, rfl, rfl, rfl⟩ (jn_nd (is := [0]) hD rfl rfl) 0 9 rfl rfl rfl rfl rfl hl.1 (Nat.le_of_ble_eq_true rfl) dX11_fee_16 (fun H16 locs16 hP' hD' hS' => ?_)
  replace hS := hS'
  replace hP : va_P (dC, dI) vwCl (fl [(w_X11 ad (b1) cs S1)]) H16 := hP'
  replace hD : va_D A (fl [(w_X11 ad (b1) cs S1)]) := hD'
  clear hP' hD' hS'
  refine lv_isub hx hb dX11_fee_19 ?_
  replace hR := bn_e hR
  obtain ⟨x20, ex20, hR⟩ := hR
  refine tp_e ex20 ?_
  refine lv_istore_n (lv' := [(2, .int x20), (0, .ref (ad b1)), (1, .int p1)]) hx hb dX11_fee_20 rfl hl (Nat.le_of_ble_eq_true rfl) rfl (fun ls hl => ?_)
  refine lv_iload_n hx hb dX11_fee_21 rfl (lv_at hl 0 rfl) ?_
  refine lv_if_le (tgt := 33) hx hb dX11_fee_22 (by decide) (fun c22 => ?_) (fun c22 => ?_)
  · replace hR := it_t hR c22
    refine lv_iconst (v := 0) hx hb dX11_fee_33 ic_0 ?_
    exact hB34 (0 : Int32) H16 _ ls hR hP hD hS (lv_sub hl [1, 2] rfl)
  · replace hR := it_f hR c22
    refine lv_iload_n hx hb dX11_fee_25 rfl (lv_at hl 0 rfl) ?_
    refine lv_iconst (v := 4) hx hb dX11_fee_26 ic_4 ?_
    refine lv_iadd hx hb dX11_fee_27 ?_
    refine lv_iconst (v := 5) hx hb dX11_fee_28 ic_5 ?_
    refine lv_idiv hx hb dX11_fee_29 (by decide) ?_
    refine lv_goto (tgt := 34) hx hb dX11_fee_30 (by decide) ?_
    exact hB34 ((x20 + 4) / 5) H16 _ ls hR hP hD hS (lv_sub hl [1, 2] rfl)
set_option maxHeartbeats 8000000 in
set_option maxRecDepth 100000 in
theorem k_X11_back (l : Launch) (dC : Nat → ClassId) (dI : Nat → Nat → Nat) (cs : Nat → ClassId) (ad : Nat → Nat) (b1 : Nat) (sz : Nat) (S1 : T2) (p1 : Int32) (p2 : Int32) (r : Int32) (u1 : T2) (hR : fX11_back S1 p1 p2 = some (r, u1)) : Met l yX11_back wsX11_back ({ frames := 4, cells := 0, slots := 0, locals := 88 } : Room) (va_Pc [.ref (ad b1), .int p1, .int p2] (pW dC dI (tyL cs) (fl [(w_X11 ad (b1) cs S1)]) sz)) (QI dC dI (tyL cs) (va_A (fl [(w_X11 ad (b1) cs S1)]) sz) (fl [(w_X11 ad (b1) cs u1)]) r) 0 0 (va_A (fl [(w_X11 ad (b1) cs S1)]) sz) := by
  refine mt_of (own := RX11) (cc := cX11_back) (maxL := 6) (ret := (some .int)) (Qc := fun A => QI dC dI (tyL cs) A (fl [(w_X11 ad (b1) cs u1)]) r) rfl (by decide) rfl (Nat.le_of_ble_eq_true rfl) (fun p e s m below meth c A ls hsz hx hb hr hts hown hlocks hml hA hK hP hD hS hl => ?_)
  subst hsz
  have hl : lv_has ls 6 [(0, .ref (ad b1)), (1, .int p1), (2, .int p2)] := hl
  have hF7 := hts (.fieldLink RX11 7 "DockedBikesModel" "s" "[I") (List.mem_of_getElem? (i := 1) rfl)
  have hinX11 : ∀ w ∈ wsX110, w ∈ wsX11_back := by decide +kernel
  refine lv_aload_n hx hb dX11_back_0 rfl (lv_at hl 0 rfl) ?_
  refine lv_iload_n hx hb dX11_back_1 rfl (lv_at hl 1 rfl) ?_
  replace hR := bd_e hR
  obtain ⟨q2, gq2, hR⟩ := hR
  refine cl_Vi (As := [.int p1]) (rest := []) (L := [(w_X11 ad (b1) cs S1)]) (L' := [(w_X11 ad (b1) cs S1)]) (Wc := [(w_X11 ad (b1) cs S1)]) (Wc' := [(w_X11 ad (b1) cs S1)]) (is := [0]) (js := []) ⟨hx, hb, hml, hown, hts⟩ (k_X11_isRider l dC dI cs ad (b1) s.heap.size S1 p1 q2 gq2) (cwV 1 hts gX11_back_X11_isRider rfl rfl rfl cd_X11_isRider ⟨Nat.le_of_ble_eq_true rfl, Nat.le_of_ble_eq_true rfl⟩) hK hP hD hS hA ⟨rfl, rfl, rfl, rfl, rfl, rfl⟩ (jn_nd (is := [0]) hD rfl rfl) 0 9 rfl rfl rfl rfl rfl hl.1 (Nat.le_of_ble_eq_true rfl) dX11_back_2 (fun H2 locs2 hP' hD' hS' => ?_)
  replace hS := hS'
  replace hP : va_P (dC, dI) vwCl (fl [(w_X11 ad (b1) cs S1)]) H2 := hP'
  replace hD : va_D A (fl [(w_X11 ad (b1) cs S1)]) := hD'
  clear hP' hD' hS'
  refine lv_if_eq (tgt := 16) hx hb dX11_back_5 (by decide) (fun c5 => ?_) (fun c5 => ?_)
  · replace hR := it_t hR c5
    refine lv_iconst (v := (-1)) hx hb dX11_back_16 ic_m1 ?_
    replace hR := Option.some.inj hR
    obtain ⟨e9, hR⟩ := Prod.mk.inj hR
    have eu1 := hR
    replace hP : va_P (dC, dI) vwCl (fl [(w_X11 ad (b1) cs u1)]) H2 := by rw [← eu1]; exact hP
    replace hD : va_D A (fl [(w_X11 ad (b1) cs u1)]) := by rw [← eu1]; exact hD
    exact W.iret hx hb hr (fun t ht hW => ⟨⟨_, (), rfl, e9, by rw [ht]; exact hP, va_K.moved hW.alike hK, hD⟩, hS.F ht⟩) hS.2.2 dX11_back_17
  · replace hR := it_f hR c5
    refine lv_aload_n hx hb dX11_back_8 rfl (lv_at hl 0 rfl) ?_
    refine lv_iload_n hx hb dX11_back_9 rfl (lv_at hl 2 rfl) ?_
    replace hR := bd_e hR
    obtain ⟨q10, gq10, hR⟩ := hR
    refine cl_Vi (As := [.int p2]) (rest := []) (L := [(w_X11 ad (b1) cs S1)]) (L' := [(w_X11 ad (b1) cs S1)]) (Wc := [(w_X11 ad (b1) cs S1)]) (Wc' := [(w_X11 ad (b1) cs S1)]) (is := [0]) (js := []) ⟨hx, hb, hml, hown, hts⟩ (k_X11_isStation l dC dI cs ad (b1) H2.size S1 p2 q10 gq10) (cwV 1 hts gX11_back_X11_isStation rfl rfl rfl cd_X11_isStation ⟨Nat.le_of_ble_eq_true rfl, Nat.le_of_ble_eq_true rfl⟩) hK hP hD hS hA ⟨rfl, rfl, rfl, rfl, rfl, rfl⟩ (jn_nd (is := [0]) hD rfl rfl) 0 9 rfl rfl rfl rfl rfl hl.1 (Nat.le_of_ble_eq_true rfl) dX11_back_10 (fun H10 locs10 hP' hD' hS' => ?_)
    replace hS := hS'
    replace hP : va_P (dC, dI) vwCl (fl [(w_X11 ad (b1) cs S1)]) H10 := hP'
    replace hD : va_D A (fl [(w_X11 ad (b1) cs S1)]) := hD'
    clear hP' hD' hS'
    refine lv_if_ne (tgt := 18) hx hb dX11_back_13 (by decide) (fun c13 => ?_) (fun c13 => ?_)
    · replace hR := it_f hR c13
      refine lv_aload_n hx hb dX11_back_18 rfl (lv_at hl 0 rfl) ?_
      refine lv_iload_n hx hb dX11_back_19 rfl (lv_at hl 1 rfl) ?_
      replace hR := bd_e hR
      obtain ⟨q20, gq20, hR⟩ := hR
      refine cl_Vi (As := [.int p1]) (rest := []) (L := [(w_X11 ad (b1) cs S1)]) (L' := [(w_X11 ad (b1) cs S1)]) (Wc := [(w_X11 ad (b1) cs S1)]) (Wc' := [(w_X11 ad (b1) cs S1)]) (is := [0]) (js := []) ⟨hx, hb, hml, hown, hts⟩ (k_X11_rides l dC dI cs ad (b1) H10.size S1 p1 q20 gq20) (cwV 1 hts gX11_back_X11_rides rfl rfl rfl cd_X11_rides ⟨Nat.le_of_ble_eq_true rfl, Nat.le_of_ble_eq_true rfl⟩) hK hP hD hS hA ⟨rfl, rfl, rfl, rfl, rfl, rfl⟩ (jn_nd (is := [0]) hD rfl rfl) 0 9 rfl rfl rfl rfl rfl hl.1 (Nat.le_of_ble_eq_true rfl) dX11_back_20 (fun H20 locs20 hP' hD' hS' => ?_)
      replace hS := hS'
      replace hP : va_P (dC, dI) vwCl (fl [(w_X11 ad (b1) cs S1)]) H20 := hP'
      replace hD : va_D A (fl [(w_X11 ad (b1) cs S1)]) := hD'
      clear hP' hD' hS'
      refine lv_if_eq (tgt := 34) hx hb dX11_back_23 (by decide) (fun c23 => ?_) (fun c23 => ?_)
      · replace hR := it_t hR c23
        refine lv_bipush (v := (-2)) hx hb dX11_back_34 bp_m2 ?_
        replace hR := Option.some.inj hR
        obtain ⟨e9, hR⟩ := Prod.mk.inj hR
        have eu1 := hR
        replace hP : va_P (dC, dI) vwCl (fl [(w_X11 ad (b1) cs u1)]) H20 := by rw [← eu1]; exact hP
        replace hD : va_D A (fl [(w_X11 ad (b1) cs u1)]) := by rw [← eu1]; exact hD
        exact W.iret hx hb hr (fun t ht hW => ⟨⟨_, (), rfl, e9, by rw [ht]; exact hP, va_K.moved hW.alike hK, hD⟩, hS.F ht⟩) hS.2.2 dX11_back_36
      · replace hR := it_f hR c23
        refine lv_aload_n hx hb dX11_back_26 rfl (lv_at hl 0 rfl) ?_
        refine lv_iload_n hx hb dX11_back_27 rfl (lv_at hl 2 rfl) ?_
        replace hR := bd_e hR
        obtain ⟨q28, gq28, hR⟩ := hR
        refine cl_Vi (As := [.int p2]) (rest := []) (L := [(w_X11 ad (b1) cs S1)]) (L' := [(w_X11 ad (b1) cs S1)]) (Wc := [(w_X11 ad (b1) cs S1)]) (Wc' := [(w_X11 ad (b1) cs S1)]) (is := [0]) (js := []) ⟨hx, hb, hml, hown, hts⟩ (k_X11_isFree l dC dI cs ad (b1) H20.size S1 p2 q28 gq28) (cwV 1 hts gX11_back_X11_isFree rfl rfl rfl cd_X11_isFree ⟨Nat.le_of_ble_eq_true rfl, Nat.le_of_ble_eq_true rfl⟩) hK hP hD hS hA ⟨rfl, rfl, rfl, rfl, rfl, rfl⟩ (jn_nd (is := [0]) hD rfl rfl) 0 9 rfl rfl rfl rfl rfl hl.1 (Nat.le_of_ble_eq_true rfl) dX11_back_28 (fun H28 locs28 hP' hD' hS' => ?_)
        replace hS := hS'
        replace hP : va_P (dC, dI) vwCl (fl [(w_X11 ad (b1) cs S1)]) H28 := hP'
        replace hD : va_D A (fl [(w_X11 ad (b1) cs S1)]) := hD'
        clear hP' hD' hS'
        refine lv_if_ne (tgt := 37) hx hb dX11_back_31 (by decide) (fun c31 => ?_) (fun c31 => ?_)
        · replace hR := it_f hR c31
          refine lv_aload_n hx hb dX11_back_37 rfl (lv_at hl 0 rfl) ?_
          replace hR := bd_e hR
          obtain ⟨q38, gq38, hR⟩ := hR
          refine cl_Vv (As := []) (rest := []) (L := [(w_X11 ad (b1) cs S1)]) (L' := [(w_X11 ad (b1) cs q38)]) (Wc := [(w_X11 ad (b1) cs S1)]) (Wc' := [(w_X11 ad (b1) cs q38)]) (is := [0]) (js := []) ⟨hx, hb, hml, hown, hts⟩ (k_X11_changes l dC dI cs ad (b1) H28.size S1 q38 gq38) (cwV 0 hts gX11_back_X11_changes rfl rfl rfl cd_X11_changes ⟨Nat.le_of_ble_eq_true rfl, Nat.le_of_ble_eq_true rfl⟩) hK hP hD hS hA ⟨rfl, rfl, rfl, rfl, rfl, rfl⟩ (jn_nd (is := [0]) hD rfl rfl) 0 9 rfl rfl rfl rfl rfl hl.1 (Nat.le_of_ble_eq_true rfl) dX11_back_38 (fun H38 locs38 hP' hD' hS' => ?_)
          replace hS := hS'
          replace hP : va_P (dC, dI) vwCl (fl [(w_X11 ad (b1) cs q38)]) H38 := hP'
          replace hD : va_D A (fl [(w_X11 ad (b1) cs q38)]) := hD'
          clear hP' hD' hS'
          refine lv_aload_n hx hb dX11_back_41 rfl (lv_at hl 0 rfl) ?_
          refine lv_iload_n hx hb dX11_back_42 rfl (lv_at hl 1 rfl) ?_
          replace hR := bd_e hR
          obtain ⟨q43, gq43, hR⟩ := hR
          refine cl_Vi (As := [.int p1]) (rest := []) (L := [(w_X11 ad (b1) cs q38)]) (L' := [(w_X11 ad (b1) cs q38)]) (Wc := [(w_X11 ad (b1) cs q38)]) (Wc' := [(w_X11 ad (b1) cs q38)]) (is := [0]) (js := []) ⟨hx, hb, hml, hown, hts⟩ (k_X11_fee l dC dI cs ad (b1) H38.size q38 p1 q43 gq43) (cwV 1 hts gX11_back_X11_fee rfl rfl rfl cd_X11_fee ⟨Nat.le_of_ble_eq_true rfl, Nat.le_of_ble_eq_true rfl⟩) hK hP hD hS hA ⟨rfl, rfl, rfl, rfl, rfl, rfl⟩ (jn_nd (is := [0]) hD rfl rfl) 0 9 rfl rfl rfl rfl rfl hl.1 (Nat.le_of_ble_eq_true rfl) dX11_back_43 (fun H43 locs43 hP' hD' hS' => ?_)
          replace hS := hS'
          replace hP : va_P (dC, dI) vwCl (fl [(w_X11 ad (b1) cs q38)]) H43 := hP'
          replace hD : va_D A (fl [(w_X11 ad (b1) cs q38)]) := hD'
          clear hP' hD' hS'
          refine lv_istore_n (lv' := [(3, .int q43), (0, .ref (ad b1)), (1, .int p1), (2, .int p2)]) hx hb dX11_back_46 rfl hl (Nat.le_of_ble_eq_true rfl) rfl (fun ls hl => ?_)
          refine lv_sipush (v := 128) hx hb dX11_back_47 sp_128 ?_
          refine lv_bipush (v := 9) hx hb dX11_back_50 bp_9 ?_
          refine lv_iload_n hx hb dX11_back_52 rfl (lv_at hl 2 rfl) ?_
          refine lv_imul hx hb dX11_back_53 ?_
          refine lv_iadd hx hb dX11_back_54 ?_
          refine lv_istore (lv' := [(4, .int ((128 : Int32) + ((9 : Int32) * p1))), (3, .int q43), (0, .ref (ad b1)), (1, .int p1), (2, .int p2)]) hx hb dX11_back_55 hl (Nat.le_of_ble_eq_true rfl) rfl (fun ls hl => ?_)
          refine lv_aload_n hx hb dX11_back_57 rfl (lv_at hl 2 rfl) ?_
          refine va_get (D := (dC, dI)) (ci := 9) (v := .ref (ad (b1 + 1))) (C := RX11) (T := TX11) (N := 14) hx hb hts hinX11 hown hK hP 0 rfl rfl 0 (by decide) hF7 (fun _ h9 => h9) rfl dX11_back_58 ?_
          refine lv_iload hx hb dX11_back_61 (lv_at hl 0 rfl) ?_
          refine lv_iconst (v := 2) hx hb dX11_back_63 ic_2 ?_
          refine lv_iadd hx hb dX11_back_64 ?_
          replace hR := gi_e hR
          obtain ⟨i65, hR⟩ := hR
          refine va_iald hx hb hK hP 1 0 rfl rfl i65 dX11_back_65 ?_
          replace hR := bn_e hR
          obtain ⟨x66, ex66, hR⟩ := hR
          refine tp_e ex66 ?_
          refine lv_istore (lv' := [(5, .int x66), (4, .int ((128 : Int32) + ((9 : Int32) * p1))), (3, .int q43), (0, .ref (ad b1)), (1, .int p1), (2, .int p2)]) hx hb dX11_back_66 hl (Nat.le_of_ble_eq_true rfl) rfl (fun ls hl => ?_)
          refine lv_aload_n hx hb dX11_back_68 rfl (lv_at hl 3 rfl) ?_
          refine lv_iload hx hb dX11_back_69 (lv_at hl 0 rfl) ?_
          refine lv_iconst (v := 0) hx hb dX11_back_71 ic_0 ?_
          refine lv_iload_n hx hb dX11_back_72 rfl (lv_at hl 5 rfl) ?_
          replace hR := bd_e hR
          obtain ⟨q73, gq73, hR⟩ := hR
          refine cl_Vv (As := [.int x66, .int (0 : Int32), .int p2]) (rest := []) (L := [(w_X11 ad (b1) cs q38)]) (L' := [(w_X11 ad (b1) cs q73)]) (Wc := [(w_X11 ad (b1) cs q38)]) (Wc' := [(w_X11 ad (b1) cs q73)]) (is := [0]) (js := []) ⟨hx, hb, hml, hown, hts⟩ (k_X11_puts l dC dI cs ad (b1) H43.size q38 x66 (0 : Int32) p2 q73 gq73) (cwV 3 hts gX11_back_X11_puts rfl rfl rfl cd_X11_puts ⟨Nat.le_of_ble_eq_true rfl, Nat.le_of_ble_eq_true rfl⟩) hK hP hD hS hA ⟨rfl, rfl, rfl, rfl, rfl, rfl⟩ (jn_nd (is := [0]) hD rfl rfl) 0 9 rfl rfl rfl rfl rfl hl.1 (Nat.le_of_ble_eq_true rfl) dX11_back_73 (fun H73 locs73 hP' hD' hS' => ?_)
          replace hS := hS'
          replace hP : va_P (dC, dI) vwCl (fl [(w_X11 ad (b1) cs q73)]) H73 := hP'
          replace hD : va_D A (fl [(w_X11 ad (b1) cs q73)]) := hD'
          clear hP' hD' hS'
          refine lv_aload_n hx hb dX11_back_76 rfl (lv_at hl 3 rfl) ?_
          refine va_get (D := (dC, dI)) (ci := 9) (v := .ref (ad (b1 + 1))) (C := RX11) (T := TX11) (N := 14) hx hb hts hinX11 hown hK hP 0 rfl rfl 0 (by decide) hF7 (fun _ h9 => h9) rfl dX11_back_77 ?_
          refine lv_bipush (v := 32) hx hb dX11_back_80 bp_32 ?_
          refine lv_bipush (v := 6) hx hb dX11_back_82 bp_6 ?_
          refine lv_iload hx hb dX11_back_84 (lv_at hl 0 rfl) ?_
          refine lv_imul hx hb dX11_back_86 ?_
          refine lv_iadd hx hb dX11_back_87 ?_
          refine lv_iconst (v := 2) hx hb dX11_back_88 ic_2 ?_
          refine lv_iadd hx hb dX11_back_89 ?_
          refine lv_dup2_11 hx hb dX11_back_90 rfl rfl ?_
          replace hR := gi_e hR
          obtain ⟨i91, hR⟩ := hR
          refine va_iald hx hb hK hP 1 0 rfl rfl i91 dX11_back_91 ?_
          refine lv_aload_n hx hb dX11_back_92 rfl (lv_at hl 3 rfl) ?_
          refine va_get (D := (dC, dI)) (ci := 9) (v := .ref (ad (b1 + 1))) (C := RX11) (T := TX11) (N := 14) hx hb hts hinX11 hown hK hP 0 rfl rfl 0 (by decide) hF7 (fun _ h9 => h9) rfl dX11_back_93 ?_
          refine lv_iconst (v := 4) hx hb dX11_back_96 ic_4 ?_
          refine va_iald hx hb hK hP 1 0 rfl rfl vi_4_206 dX11_back_97 ?_
          refine lv_aload_n hx hb dX11_back_98 rfl (lv_at hl 3 rfl) ?_
          refine va_get (D := (dC, dI)) (ci := 9) (v := .ref (ad (b1 + 1))) (C := RX11) (T := TX11) (N := 14) hx hb hts hinX11 hown hK hP 0 rfl rfl 0 (by decide) hF7 (fun _ h9 => h9) rfl dX11_back_99 ?_
          refine lv_iload hx hb dX11_back_102 (lv_at hl 1 rfl) ?_
          refine lv_iconst (v := 3) hx hb dX11_back_104 ic_3 ?_
          refine lv_iadd hx hb dX11_back_105 ?_
          replace hR := gi_e hR
          obtain ⟨i106, hR⟩ := hR
          refine va_iald hx hb hK hP 1 0 rfl rfl i106 dX11_back_106 ?_
          refine lv_isub hx hb dX11_back_107 ?_
          refine lv_iadd hx hb dX11_back_108 ?_
          replace hR := gi_e hR
          obtain ⟨i109, hR⟩ := hR
          refine va_iast hx hb hK hP hD hS 1 0 rfl rfl i109 dX11_back_109 (fun H109 locs109 hP' hD' hS' => ?_)
          replace hS := hS'
          have hP' : va_P (dC, dI) vwCl (fl [(w_X11 ad (b1) cs (sU q73 0 (sU (q73 0) (((32 : Int32) + ((6 : Int32) * x66)) + 2).toNatClampNeg ((q73 0 (((32 : Int32) + ((6 : Int32) * x66)) + 2).toNatClampNeg) + ((q73 0 (4 : Int32).toNatClampNeg) - (q73 0 (((128 : Int32) + ((9 : Int32) * p1)) + 3).toNatClampNeg))))))]) H109 := hP'
          have hD' : va_D A (fl [(w_X11 ad (b1) cs (sU q73 0 (sU (q73 0) (((32 : Int32) + ((6 : Int32) * x66)) + 2).toNatClampNeg ((q73 0 (((32 : Int32) + ((6 : Int32) * x66)) + 2).toNatClampNeg) + ((q73 0 (4 : Int32).toNatClampNeg) - (q73 0 (((128 : Int32) + ((9 : Int32) * p1)) + 3).toNatClampNeg))))))]) := hD'
          replace hR := bn_e hR
          obtain ⟨S1_109, eS1_109, hR⟩ := hR
          replace hP : va_P (dC, dI) vwCl (fl [(w_X11 ad (b1) cs S1_109)]) H109 := by rw [eS1_109]; exact hP'
          replace hD : va_D A (fl [(w_X11 ad (b1) cs S1_109)]) := by rw [eS1_109]; exact hD'
          clear hP' hD' hS'
          refine lv_aload_n hx hb dX11_back_110 rfl (lv_at hl 3 rfl) ?_
          refine va_get (D := (dC, dI)) (ci := 9) (v := .ref (ad (b1 + 1))) (C := RX11) (T := TX11) (N := 14) hx hb hts hinX11 hown hK hP 0 rfl rfl 0 (by decide) hF7 (fun _ h9 => h9) rfl dX11_back_111 ?_
          refine lv_bipush (v := 32) hx hb dX11_back_114 bp_32 ?_
          refine lv_bipush (v := 6) hx hb dX11_back_116 bp_6 ?_
          refine lv_iload hx hb dX11_back_118 (lv_at hl 0 rfl) ?_
          refine lv_imul hx hb dX11_back_120 ?_
          refine lv_iadd hx hb dX11_back_121 ?_
          refine lv_iconst (v := 4) hx hb dX11_back_122 ic_4 ?_
          refine lv_iadd hx hb dX11_back_123 ?_
          refine lv_dup2_11 hx hb dX11_back_124 rfl rfl ?_
          replace hR := gi_e hR
          obtain ⟨i125, hR⟩ := hR
          refine va_iald hx hb hK hP 1 0 rfl rfl i125 dX11_back_125 ?_
          refine lv_iconst (v := 1) hx hb dX11_back_126 ic_1 ?_
          refine lv_iadd hx hb dX11_back_127 ?_
          replace hR := gi_e hR
          obtain ⟨i128, hR⟩ := hR
          refine va_iast hx hb hK hP hD hS 1 0 rfl rfl i128 dX11_back_128 (fun H128 locs128 hP' hD' hS' => ?_)
          replace hS := hS'
          have hP' : va_P (dC, dI) vwCl (fl [(w_X11 ad (b1) cs (sU S1_109 0 (sU (S1_109 0) (((32 : Int32) + ((6 : Int32) * x66)) + 4).toNatClampNeg ((S1_109 0 (((32 : Int32) + ((6 : Int32) * x66)) + 4).toNatClampNeg) + 1))))]) H128 := hP'
          have hD' : va_D A (fl [(w_X11 ad (b1) cs (sU S1_109 0 (sU (S1_109 0) (((32 : Int32) + ((6 : Int32) * x66)) + 4).toNatClampNeg ((S1_109 0 (((32 : Int32) + ((6 : Int32) * x66)) + 4).toNatClampNeg) + 1))))]) := hD'
          replace hR := bn_e hR
          obtain ⟨S1_128, eS1_128, hR⟩ := hR
          replace hP : va_P (dC, dI) vwCl (fl [(w_X11 ad (b1) cs S1_128)]) H128 := by rw [eS1_128]; exact hP'
          replace hD : va_D A (fl [(w_X11 ad (b1) cs S1_128)]) := by rw [eS1_128]; exact hD'
          clear hP' hD' hS'
          refine lv_aload_n hx hb dX11_back_129 rfl (lv_at hl 3 rfl) ?_
          refine va_get (D := (dC, dI)) (ci := 9) (v := .ref (ad (b1 + 1))) (C := RX11) (T := TX11) (N := 14) hx hb hts hinX11 hown hK hP 0 rfl rfl 0 (by decide) hF7 (fun _ h9 => h9) rfl dX11_back_130 ?_
          refine lv_iload hx hb dX11_back_133 (lv_at hl 1 rfl) ?_
          refine lv_iconst (v := 2) hx hb dX11_back_135 ic_2 ?_
          refine lv_iadd hx hb dX11_back_136 ?_
          refine lv_bipush (v := (-4)) hx hb dX11_back_137 bp_m4 ?_
          replace hR := gi_e hR
          obtain ⟨i139, hR⟩ := hR
          refine va_iast hx hb hK hP hD hS 1 0 rfl rfl i139 dX11_back_139 (fun H139 locs139 hP' hD' hS' => ?_)
          replace hS := hS'
          have hP' : va_P (dC, dI) vwCl (fl [(w_X11 ad (b1) cs (sU S1_128 0 (sU (S1_128 0) (((128 : Int32) + ((9 : Int32) * p1)) + 2).toNatClampNeg (-4))))]) H139 := hP'
          have hD' : va_D A (fl [(w_X11 ad (b1) cs (sU S1_128 0 (sU (S1_128 0) (((128 : Int32) + ((9 : Int32) * p1)) + 2).toNatClampNeg (-4))))]) := hD'
          replace hR := bn_e hR
          obtain ⟨S1_139, eS1_139, hR⟩ := hR
          replace hP : va_P (dC, dI) vwCl (fl [(w_X11 ad (b1) cs S1_139)]) H139 := by rw [eS1_139]; exact hP'
          replace hD : va_D A (fl [(w_X11 ad (b1) cs S1_139)]) := by rw [eS1_139]; exact hD'
          clear hP' hD' hS'
          refine lv_aload_n hx hb dX11_back_140 rfl (lv_at hl 3 rfl) ?_
          refine va_get (D := (dC, dI)) (ci := 9) (v := .ref (ad (b1 + 1))) (C := RX11) (T := TX11) (N := 14) hx hb hts hinX11 hown hK hP 0 rfl rfl 0 (by decide) hF7 (fun _ h9 => h9) rfl dX11_back_141 ?_
          refine lv_iload hx hb dX11_back_144 (lv_at hl 1 rfl) ?_
          refine lv_iconst (v := 0) hx hb dX11_back_146 ic_0 ?_
          refine lv_iadd hx hb dX11_back_147 ?_
          refine lv_dup2_11 hx hb dX11_back_148 rfl rfl ?_
          replace hR := gi_e hR
          obtain ⟨i149, hR⟩ := hR
          refine va_iald hx hb hK hP 1 0 rfl rfl i149 dX11_back_149 ?_
          refine lv_iload_n hx hb dX11_back_150 rfl (lv_at hl 2 rfl) ?_
          refine lv_iadd hx hb dX11_back_151 ?_
          replace hR := gi_e hR
          obtain ⟨i152, hR⟩ := hR
          refine va_iast hx hb hK hP hD hS 1 0 rfl rfl i152 dX11_back_152 (fun H152 locs152 hP' hD' hS' => ?_)
          replace hS := hS'
          have hP' : va_P (dC, dI) vwCl (fl [(w_X11 ad (b1) cs (sU S1_139 0 (sU (S1_139 0) (((128 : Int32) + ((9 : Int32) * p1)) + 0).toNatClampNeg ((S1_139 0 (((128 : Int32) + ((9 : Int32) * p1)) + 0).toNatClampNeg) + q43))))]) H152 := hP'
          have hD' : va_D A (fl [(w_X11 ad (b1) cs (sU S1_139 0 (sU (S1_139 0) (((128 : Int32) + ((9 : Int32) * p1)) + 0).toNatClampNeg ((S1_139 0 (((128 : Int32) + ((9 : Int32) * p1)) + 0).toNatClampNeg) + q43))))]) := hD'
          replace hR := bn_e hR
          obtain ⟨S1_152, eS1_152, hR⟩ := hR
          replace hP : va_P (dC, dI) vwCl (fl [(w_X11 ad (b1) cs S1_152)]) H152 := by rw [eS1_152]; exact hP'
          replace hD : va_D A (fl [(w_X11 ad (b1) cs S1_152)]) := by rw [eS1_152]; exact hD'
          clear hP' hD' hS'
          refine lv_aload_n hx hb dX11_back_153 rfl (lv_at hl 3 rfl) ?_
          refine va_get (D := (dC, dI)) (ci := 9) (v := .ref (ad (b1 + 1))) (C := RX11) (T := TX11) (N := 14) hx hb hts hinX11 hown hK hP 0 rfl rfl 0 (by decide) hF7 (fun _ h9 => h9) rfl dX11_back_154 ?_
          refine lv_iload hx hb dX11_back_157 (lv_at hl 1 rfl) ?_
          refine lv_bipush (v := 7) hx hb dX11_back_159 bp_7 ?_
          refine lv_iadd hx hb dX11_back_161 ?_
          refine lv_dup2_11 hx hb dX11_back_162 rfl rfl ?_
          replace hR := gi_e hR
          obtain ⟨i163, hR⟩ := hR
          refine va_iald hx hb hK hP 1 0 rfl rfl i163 dX11_back_163 ?_
          refine lv_iconst (v := 1) hx hb dX11_back_164 ic_1 ?_
          refine lv_iadd hx hb dX11_back_165 ?_
          replace hR := gi_e hR
          obtain ⟨i166, hR⟩ := hR
          refine va_iast hx hb hK hP hD hS 1 0 rfl rfl i166 dX11_back_166 (fun H166 locs166 hP' hD' hS' => ?_)
          replace hS := hS'
          have hP' : va_P (dC, dI) vwCl (fl [(w_X11 ad (b1) cs (sU S1_152 0 (sU (S1_152 0) (((128 : Int32) + ((9 : Int32) * p1)) + 7).toNatClampNeg ((S1_152 0 (((128 : Int32) + ((9 : Int32) * p1)) + 7).toNatClampNeg) + 1))))]) H166 := hP'
          have hD' : va_D A (fl [(w_X11 ad (b1) cs (sU S1_152 0 (sU (S1_152 0) (((128 : Int32) + ((9 : Int32) * p1)) + 7).toNatClampNeg ((S1_152 0 (((128 : Int32) + ((9 : Int32) * p1)) + 7).toNatClampNeg) + 1))))]) := hD'
          replace hR := bn_e hR
          obtain ⟨S1_166, eS1_166, hR⟩ := hR
          replace hP : va_P (dC, dI) vwCl (fl [(w_X11 ad (b1) cs S1_166)]) H166 := by rw [eS1_166]; exact hP'
          replace hD : va_D A (fl [(w_X11 ad (b1) cs S1_166)]) := by rw [eS1_166]; exact hD'
          clear hP' hD' hS'
          refine lv_aload_n hx hb dX11_back_167 rfl (lv_at hl 3 rfl) ?_
          refine va_get (D := (dC, dI)) (ci := 9) (v := .ref (ad (b1 + 1))) (C := RX11) (T := TX11) (N := 14) hx hb hts hinX11 hown hK hP 0 rfl rfl 0 (by decide) hF7 (fun _ h9 => h9) rfl dX11_back_168 ?_
          refine lv_bipush (v := 8) hx hb dX11_back_171 bp_8 ?_
          refine lv_iconst (v := 4) hx hb dX11_back_173 ic_4 ?_
          refine lv_iload_n hx hb dX11_back_174 rfl (lv_at hl 5 rfl) ?_
          refine lv_imul hx hb dX11_back_175 ?_
          refine lv_iadd hx hb dX11_back_176 ?_
          refine lv_iconst (v := 3) hx hb dX11_back_177 ic_3 ?_
          refine lv_iadd hx hb dX11_back_178 ?_
          refine lv_dup2_11 hx hb dX11_back_179 rfl rfl ?_
          replace hR := gi_e hR
          obtain ⟨i180, hR⟩ := hR
          refine va_iald hx hb hK hP 1 0 rfl rfl i180 dX11_back_180 ?_
          refine lv_iconst (v := 1) hx hb dX11_back_181 ic_1 ?_
          refine lv_iadd hx hb dX11_back_182 ?_
          replace hR := gi_e hR
          obtain ⟨i183, hR⟩ := hR
          refine va_iast hx hb hK hP hD hS 1 0 rfl rfl i183 dX11_back_183 (fun H183 locs183 hP' hD' hS' => ?_)
          replace hS := hS'
          have hP' : va_P (dC, dI) vwCl (fl [(w_X11 ad (b1) cs (sU S1_166 0 (sU (S1_166 0) (((8 : Int32) + ((4 : Int32) * p2)) + 3).toNatClampNeg ((S1_166 0 (((8 : Int32) + ((4 : Int32) * p2)) + 3).toNatClampNeg) + 1))))]) H183 := hP'
          have hD' : va_D A (fl [(w_X11 ad (b1) cs (sU S1_166 0 (sU (S1_166 0) (((8 : Int32) + ((4 : Int32) * p2)) + 3).toNatClampNeg ((S1_166 0 (((8 : Int32) + ((4 : Int32) * p2)) + 3).toNatClampNeg) + 1))))]) := hD'
          replace hR := bn_e hR
          obtain ⟨S1_183, eS1_183, hR⟩ := hR
          replace hP : va_P (dC, dI) vwCl (fl [(w_X11 ad (b1) cs S1_183)]) H183 := by rw [eS1_183]; exact hP'
          replace hD : va_D A (fl [(w_X11 ad (b1) cs S1_183)]) := by rw [eS1_183]; exact hD'
          clear hP' hD' hS'
          refine lv_iload_n hx hb dX11_back_184 rfl (lv_at hl 2 rfl) ?_
          replace hR := Option.some.inj hR
          obtain ⟨e9, hR⟩ := Prod.mk.inj hR
          have eu1 := hR
          replace hP : va_P (dC, dI) vwCl (fl [(w_X11 ad (b1) cs u1)]) H183 := by rw [← eu1]; exact hP
          replace hD : va_D A (fl [(w_X11 ad (b1) cs u1)]) := by rw [← eu1]; exact hD
          exact W.iret hx hb hr (fun t ht hW => ⟨⟨_, (), rfl, e9, by rw [ht]; exact hP, va_K.moved hW.alike hK, hD⟩, hS.F ht⟩) hS.2.2 dX11_back_185
        · replace hR := it_t hR c31
          refine lv_bipush (v := (-2)) hx hb dX11_back_34 bp_m2 ?_
          replace hR := Option.some.inj hR
          obtain ⟨e9, hR⟩ := Prod.mk.inj hR
          have eu1 := hR
          replace hP : va_P (dC, dI) vwCl (fl [(w_X11 ad (b1) cs u1)]) H28 := by rw [← eu1]; exact hP
          replace hD : va_D A (fl [(w_X11 ad (b1) cs u1)]) := by rw [← eu1]; exact hD
          exact W.iret hx hb hr (fun t ht hW => ⟨⟨_, (), rfl, e9, by rw [ht]; exact hP, va_K.moved hW.alike hK, hD⟩, hS.F ht⟩) hS.2.2 dX11_back_36
    · replace hR := it_t hR c13
      refine lv_iconst (v := (-1)) hx hb dX11_back_16 ic_m1 ?_
      replace hR := Option.some.inj hR
      obtain ⟨e9, hR⟩ := Prod.mk.inj hR
      have eu1 := hR
      replace hP : va_P (dC, dI) vwCl (fl [(w_X11 ad (b1) cs u1)]) H10 := by rw [← eu1]; exact hP
      replace hD : va_D A (fl [(w_X11 ad (b1) cs u1)]) := by rw [← eu1]; exact hD
      exact W.iret hx hb hr (fun t ht hW => ⟨⟨_, (), rfl, e9, by rw [ht]; exact hP, va_K.moved hW.alike hK, hD⟩, hS.F ht⟩) hS.2.2 dX11_back_17
set_option maxHeartbeats 8000000 in
set_option maxRecDepth 100000 in
theorem k_X11_full (l : Launch) (dC : Nat → ClassId) (dI : Nat → Nat → Nat) (cs : Nat → ClassId) (ad : Nat → Nat) (b1 : Nat) (sz : Nat) (S1 : T2) (p1 : Int32) (p2 : Int32) (r : Int32) (u1 : T2) (hR : fX11_full S1 p1 p2 = some (r, u1)) : Met l yX11_full wsX11_full ({ frames := 4, cells := 0, slots := 0, locals := 88 } : Room) (va_Pc [.ref (ad b1), .int p1, .int p2] (pW dC dI (tyL cs) (fl [(w_X11 ad (b1) cs S1)]) sz)) (QI dC dI (tyL cs) (va_A (fl [(w_X11 ad (b1) cs S1)]) sz) (fl [(w_X11 ad (b1) cs u1)]) r) 0 0 (va_A (fl [(w_X11 ad (b1) cs S1)]) sz) := by
  refine mt_of (own := RX11) (cc := cX11_full) (maxL := 4) (ret := (some .int)) (Qc := fun A => QI dC dI (tyL cs) A (fl [(w_X11 ad (b1) cs u1)]) r) rfl (by decide) rfl (Nat.le_of_ble_eq_true rfl) (fun p e s m below meth c A ls hsz hx hb hr hts hown hlocks hml hA hK hP hD hS hl => ?_)
  subst hsz
  have hl : lv_has ls 4 [(0, .ref (ad b1)), (1, .int p1), (2, .int p2)] := hl
  have hF7 := hts (.fieldLink RX11 7 "DockedBikesModel" "s" "[I") (List.mem_of_getElem? (i := 1) rfl)
  have hinX11 : ∀ w ∈ wsX110, w ∈ wsX11_full := by decide +kernel
  refine lv_aload_n hx hb dX11_full_0 rfl (lv_at hl 0 rfl) ?_
  refine lv_iload_n hx hb dX11_full_1 rfl (lv_at hl 1 rfl) ?_
  replace hR := bd_e hR
  obtain ⟨q2, gq2, hR⟩ := hR
  refine cl_Vi (As := [.int p1]) (rest := []) (L := [(w_X11 ad (b1) cs S1)]) (L' := [(w_X11 ad (b1) cs S1)]) (Wc := [(w_X11 ad (b1) cs S1)]) (Wc' := [(w_X11 ad (b1) cs S1)]) (is := [0]) (js := []) ⟨hx, hb, hml, hown, hts⟩ (k_X11_isRider l dC dI cs ad (b1) s.heap.size S1 p1 q2 gq2) (cwV 1 hts gX11_full_X11_isRider rfl rfl rfl cd_X11_isRider ⟨Nat.le_of_ble_eq_true rfl, Nat.le_of_ble_eq_true rfl⟩) hK hP hD hS hA ⟨rfl, rfl, rfl, rfl, rfl, rfl⟩ (jn_nd (is := [0]) hD rfl rfl) 0 9 rfl rfl rfl rfl rfl hl.1 (Nat.le_of_ble_eq_true rfl) dX11_full_2 (fun H2 locs2 hP' hD' hS' => ?_)
  replace hS := hS'
  replace hP : va_P (dC, dI) vwCl (fl [(w_X11 ad (b1) cs S1)]) H2 := hP'
  replace hD : va_D A (fl [(w_X11 ad (b1) cs S1)]) := hD'
  clear hP' hD' hS'
  refine lv_if_eq (tgt := 16) hx hb dX11_full_5 (by decide) (fun c5 => ?_) (fun c5 => ?_)
  · replace hR := it_t hR c5
    refine lv_iconst (v := (-1)) hx hb dX11_full_16 ic_m1 ?_
    replace hR := Option.some.inj hR
    obtain ⟨e9, hR⟩ := Prod.mk.inj hR
    have eu1 := hR
    replace hP : va_P (dC, dI) vwCl (fl [(w_X11 ad (b1) cs u1)]) H2 := by rw [← eu1]; exact hP
    replace hD : va_D A (fl [(w_X11 ad (b1) cs u1)]) := by rw [← eu1]; exact hD
    exact W.iret hx hb hr (fun t ht hW => ⟨⟨_, (), rfl, e9, by rw [ht]; exact hP, va_K.moved hW.alike hK, hD⟩, hS.F ht⟩) hS.2.2 dX11_full_17
  · replace hR := it_f hR c5
    refine lv_aload_n hx hb dX11_full_8 rfl (lv_at hl 0 rfl) ?_
    refine lv_iload_n hx hb dX11_full_9 rfl (lv_at hl 2 rfl) ?_
    replace hR := bd_e hR
    obtain ⟨q10, gq10, hR⟩ := hR
    refine cl_Vi (As := [.int p2]) (rest := []) (L := [(w_X11 ad (b1) cs S1)]) (L' := [(w_X11 ad (b1) cs S1)]) (Wc := [(w_X11 ad (b1) cs S1)]) (Wc' := [(w_X11 ad (b1) cs S1)]) (is := [0]) (js := []) ⟨hx, hb, hml, hown, hts⟩ (k_X11_isStation l dC dI cs ad (b1) H2.size S1 p2 q10 gq10) (cwV 1 hts gX11_full_X11_isStation rfl rfl rfl cd_X11_isStation ⟨Nat.le_of_ble_eq_true rfl, Nat.le_of_ble_eq_true rfl⟩) hK hP hD hS hA ⟨rfl, rfl, rfl, rfl, rfl, rfl⟩ (jn_nd (is := [0]) hD rfl rfl) 0 9 rfl rfl rfl rfl rfl hl.1 (Nat.le_of_ble_eq_true rfl) dX11_full_10 (fun H10 locs10 hP' hD' hS' => ?_)
    replace hS := hS'
    replace hP : va_P (dC, dI) vwCl (fl [(w_X11 ad (b1) cs S1)]) H10 := hP'
    replace hD : va_D A (fl [(w_X11 ad (b1) cs S1)]) := hD'
    clear hP' hD' hS'
    refine lv_if_ne (tgt := 18) hx hb dX11_full_13 (by decide) (fun c13 => ?_) (fun c13 => ?_)
    · replace hR := it_f hR c13
      refine lv_sipush (v := 128) hx hb dX11_full_18 sp_128 ?_
      refine lv_bipush (v := 9) hx hb dX11_full_21 bp_9 ?_
      refine lv_iload_n hx hb dX11_full_23 rfl (lv_at hl 1 rfl) ?_
      refine lv_imul hx hb dX11_full_24 ?_
      refine lv_iadd hx hb dX11_full_25 ?_
      refine lv_istore_n (lv' := [(3, .int ((128 : Int32) + ((9 : Int32) * p1))), (0, .ref (ad b1)), (1, .int p1), (2, .int p2)]) hx hb dX11_full_26 rfl hl (Nat.le_of_ble_eq_true rfl) rfl (fun ls hl => ?_)
      refine lv_aload_n hx hb dX11_full_27 rfl (lv_at hl 1 rfl) ?_
      refine lv_iload_n hx hb dX11_full_28 rfl (lv_at hl 2 rfl) ?_
      replace hR := bd_e hR
      obtain ⟨q29, gq29, hR⟩ := hR
      refine cl_Vi (As := [.int p1]) (rest := []) (L := [(w_X11 ad (b1) cs S1)]) (L' := [(w_X11 ad (b1) cs S1)]) (Wc := [(w_X11 ad (b1) cs S1)]) (Wc' := [(w_X11 ad (b1) cs S1)]) (is := [0]) (js := []) ⟨hx, hb, hml, hown, hts⟩ (k_X11_rides l dC dI cs ad (b1) H10.size S1 p1 q29 gq29) (cwV 1 hts gX11_full_X11_rides rfl rfl rfl cd_X11_rides ⟨Nat.le_of_ble_eq_true rfl, Nat.le_of_ble_eq_true rfl⟩) hK hP hD hS hA ⟨rfl, rfl, rfl, rfl, rfl, rfl⟩ (jn_nd (is := [0]) hD rfl rfl) 0 9 rfl rfl rfl rfl rfl hl.1 (Nat.le_of_ble_eq_true rfl) dX11_full_29 (fun H29 locs29 hP' hD' hS' => ?_)
      replace hS := hS'
      replace hP : va_P (dC, dI) vwCl (fl [(w_X11 ad (b1) cs S1)]) H29 := hP'
      replace hD : va_D A (fl [(w_X11 ad (b1) cs S1)]) := hD'
      clear hP' hD' hS'
      refine lv_if_eq (tgt := 60) hx hb dX11_full_32 (by decide) (fun c32 => ?_) (fun c32 => ?_)
      · replace hR := it_t hR c32
        refine lv_bipush (v := (-2)) hx hb dX11_full_60 bp_m2 ?_
        replace hR := Option.some.inj hR
        obtain ⟨e9, hR⟩ := Prod.mk.inj hR
        have eu1 := hR
        replace hP : va_P (dC, dI) vwCl (fl [(w_X11 ad (b1) cs u1)]) H29 := by rw [← eu1]; exact hP
        replace hD : va_D A (fl [(w_X11 ad (b1) cs u1)]) := by rw [← eu1]; exact hD
        exact W.iret hx hb hr (fun t ht hW => ⟨⟨_, (), rfl, e9, by rw [ht]; exact hP, va_K.moved hW.alike hK, hD⟩, hS.F ht⟩) hS.2.2 dX11_full_62
      · replace hR := it_f hR c32
        refine lv_aload_n hx hb dX11_full_35 rfl (lv_at hl 1 rfl) ?_
        refine lv_iload_n hx hb dX11_full_36 rfl (lv_at hl 3 rfl) ?_
        replace hR := bd_e hR
        obtain ⟨q37, gq37, hR⟩ := hR
        refine cl_Vi (As := [.int p2]) (rest := []) (L := [(w_X11 ad (b1) cs S1)]) (L' := [(w_X11 ad (b1) cs S1)]) (Wc := [(w_X11 ad (b1) cs S1)]) (Wc' := [(w_X11 ad (b1) cs S1)]) (is := [0]) (js := []) ⟨hx, hb, hml, hown, hts⟩ (k_X11_isFree l dC dI cs ad (b1) H29.size S1 p2 q37 gq37) (cwV 1 hts gX11_full_X11_isFree rfl rfl rfl cd_X11_isFree ⟨Nat.le_of_ble_eq_true rfl, Nat.le_of_ble_eq_true rfl⟩) hK hP hD hS hA ⟨rfl, rfl, rfl, rfl, rfl, rfl⟩ (jn_nd (is := [0]) hD rfl rfl) 0 9 rfl rfl rfl rfl rfl hl.1 (Nat.le_of_ble_eq_true rfl) dX11_full_37 (fun H37 locs37 hP' hD' hS' => ?_)
        replace hS := hS'
        replace hP : va_P (dC, dI) vwCl (fl [(w_X11 ad (b1) cs S1)]) H37 := hP'
        replace hD : va_D A (fl [(w_X11 ad (b1) cs S1)]) := hD'
        clear hP' hD' hS'
        refine lv_if_ne (tgt := 60) hx hb dX11_full_40 (by decide) (fun c40 => ?_) (fun c40 => ?_)
        · replace hR := it_f hR c40
          refine lv_bipush (v := (-2)) hx hb dX11_full_60 bp_m2 ?_
          replace hR := Option.some.inj hR
          obtain ⟨e9, hR⟩ := Prod.mk.inj hR
          have eu1 := hR
          replace hP : va_P (dC, dI) vwCl (fl [(w_X11 ad (b1) cs u1)]) H37 := by rw [← eu1]; exact hP
          replace hD : va_D A (fl [(w_X11 ad (b1) cs u1)]) := by rw [← eu1]; exact hD
          exact W.iret hx hb hr (fun t ht hW => ⟨⟨_, (), rfl, e9, by rw [ht]; exact hP, va_K.moved hW.alike hK, hD⟩, hS.F ht⟩) hS.2.2 dX11_full_62
        · replace hR := it_t hR c40
          refine lv_aload_n hx hb dX11_full_43 rfl (lv_at hl 1 rfl) ?_
          refine va_get (D := (dC, dI)) (ci := 9) (v := .ref (ad (b1 + 1))) (C := RX11) (T := TX11) (N := 14) hx hb hts hinX11 hown hK hP 0 rfl rfl 0 (by decide) hF7 (fun _ h9 => h9) rfl dX11_full_44 ?_
          refine lv_iload_n hx hb dX11_full_47 rfl (lv_at hl 0 rfl) ?_
          refine lv_bipush (v := 6) hx hb dX11_full_48 bp_6 ?_
          refine lv_iadd hx hb dX11_full_50 ?_
          replace hR := gi_e hR
          obtain ⟨i51, hR⟩ := hR
          refine va_iald hx hb hK hP 1 0 rfl rfl i51 dX11_full_51 ?_
          refine lv_iload_n hx hb dX11_full_52 rfl (lv_at hl 3 rfl) ?_
          refine lv_ishr hx hb dX11_full_53 ?_
          refine lv_iconst (v := 1) hx hb dX11_full_54 ic_1 ?_
          refine lv_iand hx hb dX11_full_55 ?_
          refine lv_iconst (v := 1) hx hb dX11_full_56 ic_1 ?_
          refine lv_icmp_ne (tgt := 63) hx hb dX11_full_57 (by decide) (fun c57 => ?_) (fun c57 => ?_)
          · replace hR := it_f hR c57
            refine lv_aload_n hx hb dX11_full_63 rfl (lv_at hl 1 rfl) ?_
            replace hR := bd_e hR
            obtain ⟨q64, gq64, hR⟩ := hR
            refine cl_Vv (As := []) (rest := []) (L := [(w_X11 ad (b1) cs S1)]) (L' := [(w_X11 ad (b1) cs q64)]) (Wc := [(w_X11 ad (b1) cs S1)]) (Wc' := [(w_X11 ad (b1) cs q64)]) (is := [0]) (js := []) ⟨hx, hb, hml, hown, hts⟩ (k_X11_changes l dC dI cs ad (b1) H37.size S1 q64 gq64) (cwV 0 hts gX11_full_X11_changes rfl rfl rfl cd_X11_changes ⟨Nat.le_of_ble_eq_true rfl, Nat.le_of_ble_eq_true rfl⟩) hK hP hD hS hA ⟨rfl, rfl, rfl, rfl, rfl, rfl⟩ (jn_nd (is := [0]) hD rfl rfl) 0 9 rfl rfl rfl rfl rfl hl.1 (Nat.le_of_ble_eq_true rfl) dX11_full_64 (fun H64 locs64 hP' hD' hS' => ?_)
            replace hS := hS'
            replace hP : va_P (dC, dI) vwCl (fl [(w_X11 ad (b1) cs q64)]) H64 := hP'
            replace hD : va_D A (fl [(w_X11 ad (b1) cs q64)]) := hD'
            clear hP' hD' hS'
            refine lv_aload_n hx hb dX11_full_67 rfl (lv_at hl 1 rfl) ?_
            refine va_get (D := (dC, dI)) (ci := 9) (v := .ref (ad (b1 + 1))) (C := RX11) (T := TX11) (N := 14) hx hb hts hinX11 hown hK hP 0 rfl rfl 0 (by decide) hF7 (fun _ h9 => h9) rfl dX11_full_68 ?_
            refine lv_iload_n hx hb dX11_full_71 rfl (lv_at hl 0 rfl) ?_
            refine lv_bipush (v := 6) hx hb dX11_full_72 bp_6 ?_
            refine lv_iadd hx hb dX11_full_74 ?_
            refine lv_dup2_11 hx hb dX11_full_75 rfl rfl ?_
            replace hR := gi_e hR
            obtain ⟨i76, hR⟩ := hR
            refine va_iald hx hb hK hP 1 0 rfl rfl i76 dX11_full_76 ?_
            refine lv_iconst (v := 1) hx hb dX11_full_77 ic_1 ?_
            refine lv_iload_n hx hb dX11_full_78 rfl (lv_at hl 3 rfl) ?_
            refine lv_ishl hx hb dX11_full_79 ?_
            refine lv_ior hx hb dX11_full_80 ?_
            replace hR := gi_e hR
            obtain ⟨i81, hR⟩ := hR
            refine va_iast hx hb hK hP hD hS 1 0 rfl rfl i81 dX11_full_81 (fun H81 locs81 hP' hD' hS' => ?_)
            replace hS := hS'
            have hP' : va_P (dC, dI) vwCl (fl [(w_X11 ad (b1) cs (sU q64 0 (sU (q64 0) (((128 : Int32) + ((9 : Int32) * p1)) + 6).toNatClampNeg ((q64 0 (((128 : Int32) + ((9 : Int32) * p1)) + 6).toNatClampNeg) ||| ((1 : Int32) <<< (p2 &&& 31))))))]) H81 := hP'
            have hD' : va_D A (fl [(w_X11 ad (b1) cs (sU q64 0 (sU (q64 0) (((128 : Int32) + ((9 : Int32) * p1)) + 6).toNatClampNeg ((q64 0 (((128 : Int32) + ((9 : Int32) * p1)) + 6).toNatClampNeg) ||| ((1 : Int32) <<< (p2 &&& 31))))))]) := hD'
            replace hR := bn_e hR
            obtain ⟨S1_81, eS1_81, hR⟩ := hR
            replace hP : va_P (dC, dI) vwCl (fl [(w_X11 ad (b1) cs S1_81)]) H81 := by rw [eS1_81]; exact hP'
            replace hD : va_D A (fl [(w_X11 ad (b1) cs S1_81)]) := by rw [eS1_81]; exact hD'
            clear hP' hD' hS'
            refine lv_aload_n hx hb dX11_full_82 rfl (lv_at hl 1 rfl) ?_
            refine va_get (D := (dC, dI)) (ci := 9) (v := .ref (ad (b1 + 1))) (C := RX11) (T := TX11) (N := 14) hx hb hts hinX11 hown hK hP 0 rfl rfl 0 (by decide) hF7 (fun _ h9 => h9) rfl dX11_full_83 ?_
            refine lv_iload_n hx hb dX11_full_86 rfl (lv_at hl 0 rfl) ?_
            refine lv_iconst (v := 4) hx hb dX11_full_87 ic_4 ?_
            refine lv_iadd hx hb dX11_full_88 ?_
            refine lv_dup2_11 hx hb dX11_full_89 rfl rfl ?_
            replace hR := gi_e hR
            obtain ⟨i90, hR⟩ := hR
            refine va_iald hx hb hK hP 1 0 rfl rfl i90 dX11_full_90 ?_
            refine lv_bipush (v := 15) hx hb dX11_full_91 bp_15 ?_
            refine lv_iadd hx hb dX11_full_93 ?_
            replace hR := gi_e hR
            obtain ⟨i94, hR⟩ := hR
            refine va_iast hx hb hK hP hD hS 1 0 rfl rfl i94 dX11_full_94 (fun H94 locs94 hP' hD' hS' => ?_)
            replace hS := hS'
            have hP' : va_P (dC, dI) vwCl (fl [(w_X11 ad (b1) cs (sU S1_81 0 (sU (S1_81 0) (((128 : Int32) + ((9 : Int32) * p1)) + 4).toNatClampNeg ((S1_81 0 (((128 : Int32) + ((9 : Int32) * p1)) + 4).toNatClampNeg) + 15))))]) H94 := hP'
            have hD' : va_D A (fl [(w_X11 ad (b1) cs (sU S1_81 0 (sU (S1_81 0) (((128 : Int32) + ((9 : Int32) * p1)) + 4).toNatClampNeg ((S1_81 0 (((128 : Int32) + ((9 : Int32) * p1)) + 4).toNatClampNeg) + 15))))]) := hD'
            replace hR := bn_e hR
            obtain ⟨S1_94, eS1_94, hR⟩ := hR
            replace hP : va_P (dC, dI) vwCl (fl [(w_X11 ad (b1) cs S1_94)]) H94 := by rw [eS1_94]; exact hP'
            replace hD : va_D A (fl [(w_X11 ad (b1) cs S1_94)]) := by rw [eS1_94]; exact hD'
            clear hP' hD' hS'
            refine lv_aload_n hx hb dX11_full_95 rfl (lv_at hl 1 rfl) ?_
            refine va_get (D := (dC, dI)) (ci := 9) (v := .ref (ad (b1 + 1))) (C := RX11) (T := TX11) (N := 14) hx hb hts hinX11 hown hK hP 0 rfl rfl 0 (by decide) hF7 (fun _ h9 => h9) rfl dX11_full_96 ?_
            refine lv_iload_n hx hb dX11_full_99 rfl (lv_at hl 0 rfl) ?_
            refine lv_iconst (v := 4) hx hb dX11_full_100 ic_4 ?_
            refine lv_iadd hx hb dX11_full_101 ?_
            replace hR := gi_e hR
            obtain ⟨i102, hR⟩ := hR
            refine va_iald hx hb hK hP 1 0 rfl rfl i102 dX11_full_102 ?_
            replace hR := Option.some.inj hR
            obtain ⟨e9, hR⟩ := Prod.mk.inj hR
            have eu1 := hR
            replace hP : va_P (dC, dI) vwCl (fl [(w_X11 ad (b1) cs u1)]) H94 := by rw [← eu1]; exact hP
            replace hD : va_D A (fl [(w_X11 ad (b1) cs u1)]) := by rw [← eu1]; exact hD
            exact W.iret hx hb hr (fun t ht hW => ⟨⟨_, (), rfl, e9, by rw [ht]; exact hP, va_K.moved hW.alike hK, hD⟩, hS.F ht⟩) hS.2.2 dX11_full_103
          · replace hR := it_t hR c57
            refine lv_bipush (v := (-2)) hx hb dX11_full_60 bp_m2 ?_
            replace hR := Option.some.inj hR
            obtain ⟨e9, hR⟩ := Prod.mk.inj hR
            have eu1 := hR
            replace hP : va_P (dC, dI) vwCl (fl [(w_X11 ad (b1) cs u1)]) H37 := by rw [← eu1]; exact hP
            replace hD : va_D A (fl [(w_X11 ad (b1) cs u1)]) := by rw [← eu1]; exact hD
            exact W.iret hx hb hr (fun t ht hW => ⟨⟨_, (), rfl, e9, by rw [ht]; exact hP, va_K.moved hW.alike hK, hD⟩, hS.F ht⟩) hS.2.2 dX11_full_62
    · replace hR := it_t hR c13
      refine lv_iconst (v := (-1)) hx hb dX11_full_16 ic_m1 ?_
      replace hR := Option.some.inj hR
      obtain ⟨e9, hR⟩ := Prod.mk.inj hR
      have eu1 := hR
      replace hP : va_P (dC, dI) vwCl (fl [(w_X11 ad (b1) cs u1)]) H10 := by rw [← eu1]; exact hP
      replace hD : va_D A (fl [(w_X11 ad (b1) cs u1)]) := by rw [← eu1]; exact hD
      exact W.iret hx hb hr (fun t ht hW => ⟨⟨_, (), rfl, e9, by rw [ht]; exact hP, va_K.moved hW.alike hK, hD⟩, hS.F ht⟩) hS.2.2 dX11_full_17
set_option maxHeartbeats 8000000 in
set_option maxRecDepth 100000 in
theorem k_X11_faulty (l : Launch) (dC : Nat → ClassId) (dI : Nat → Nat → Nat) (cs : Nat → ClassId) (ad : Nat → Nat) (b1 : Nat) (sz : Nat) (S1 : T2) (r : Int32) (hR : fX11_faulty S1 = some r) : Met l yX11_faulty wsX11_faulty ({ frames := 1, cells := 0, slots := 0, locals := 22 } : Room) (va_Pc [.ref (ad b1)] (pW dC dI (tyL cs) (fl [(w_X11 ad (b1) cs S1)]) sz)) (QI dC dI (tyL cs) (va_A (fl [(w_X11 ad (b1) cs S1)]) sz) (fl [(w_X11 ad (b1) cs S1)]) r) 0 0 (va_A (fl [(w_X11 ad (b1) cs S1)]) sz) := by
  refine mt_of (own := RX11) (cc := cX11_faulty) (maxL := 3) (ret := (some .int)) (Qc := fun A => QI dC dI (tyL cs) A (fl [(w_X11 ad (b1) cs S1)]) r) rfl (by decide) rfl (Nat.le_of_ble_eq_true rfl) (fun p e s m below meth c A ls hsz hx hb hr hts hown hlocks hml hA hK hP hD hS hl => ?_)
  subst hsz
  have hl : lv_has ls 3 [(0, .ref (ad b1))] := hl
  have hF7 := hts (.fieldLink RX11 7 "DockedBikesModel" "s" "[I") (List.mem_of_getElem? (i := 1) rfl)
  have hinX11 : ∀ w ∈ wsX110, w ∈ wsX11_faulty := by decide +kernel
  have hB4 : ∀ (n4 : Nat), ∀ (v1_4 : Int32) (v2_4 : Int32) (H : Heap) (locs : List Loc) (ls : Array Slot), fX11_faulty_4 S1 n4 v1_4 v2_4 = some r → va_P (dC, dI) vwCl (fl [(w_X11 ad (b1) cs S1)]) H → va_D A (fl [(w_X11 ad (b1) cs S1)]) → va_S A s.heap H locs → lv_has ls 3 [(0, .ref (ad b1)), (1, .int v1_4), (2, .int v2_4)] → W p l e (headSpec wsX11_faulty ({ frames := 1, cells := 0, slots := 0, locals := 22 } : Room)).room s m ([.ref (ad b1)] : List Value).toArray below meth c H locs 0 0 (MQ below (QI dC dI (tyL cs) A (fl [(w_X11 ad (b1) cs S1)]) r) ([.ref (ad b1)] : List Value).toArray s 0 0 A) (F0 m 4 ls []) := by
    intro n4
    induction n4 with
    | zero =>
      intro v1_4 v2_4 H locs ls hR hP hD hS hl
      exact nn_e hR
    | succ n4 hI4 =>
      intro v1_4 v2_4 H locs ls hR hP hD hS hl
      rw [fX11_faulty_4] at hR
      refine lv_iload_n hx hb dX11_faulty_4 rfl (lv_at hl 2 rfl) ?_
      refine lv_aload_n hx hb dX11_faulty_5 rfl (lv_at hl 0 rfl) ?_
      refine va_get (D := (dC, dI)) (ci := 9) (v := .ref (ad (b1 + 1))) (C := RX11) (T := TX11) (N := 14) hx hb hts hinX11 hown hK hP 0 rfl rfl 0 (by decide) hF7 (fun _ h9 => h9) rfl dX11_faulty_6 ?_
      refine lv_iconst (v := 1) hx hb dX11_faulty_9 ic_1 ?_
      refine va_iald hx hb hK hP 1 0 rfl rfl vi_1_206 dX11_faulty_10 ?_
      refine lv_icmp_ge (tgt := 29) hx hb dX11_faulty_11 (by decide) (fun c11 => ?_) (fun c11 => ?_)
      · replace hR := it_t hR c11
        refine lv_iload_n hx hb dX11_faulty_29 rfl (lv_at hl 1 rfl) ?_
        replace hR := Option.some.inj hR
        have e9 := hR
        exact W.iret hx hb hr (fun t ht hW => ⟨⟨_, (), rfl, e9, by rw [ht]; exact hP, va_K.moved hW.alike hK, hD⟩, hS.F ht⟩) hS.2.2 dX11_faulty_30
      · replace hR := it_f hR c11
        refine lv_iload_n hx hb dX11_faulty_14 rfl (lv_at hl 1 rfl) ?_
        refine lv_aload_n hx hb dX11_faulty_15 rfl (lv_at hl 0 rfl) ?_
        refine lv_iload_n hx hb dX11_faulty_16 rfl (lv_at hl 2 rfl) ?_
        refine lv_iconst (v := 3) hx hb dX11_faulty_17 ic_3 ?_
        replace hR := bd_e hR
        obtain ⟨q18, gq18, hR⟩ := hR
        refine cl_Vi (As := [.int v2_4, .int (3 : Int32)]) (rest := [.int v1_4]) (L := [(w_X11 ad (b1) cs S1)]) (L' := [(w_X11 ad (b1) cs S1)]) (Wc := [(w_X11 ad (b1) cs S1)]) (Wc' := [(w_X11 ad (b1) cs S1)]) (is := [0]) (js := []) ⟨hx, hb, hml, hown, hts⟩ (k_X11_ofBicycle l dC dI cs ad (b1) H.size S1 v2_4 (3 : Int32) q18 gq18) (cwV 2 hts gX11_faulty_X11_ofBicycle rfl rfl rfl cd_X11_ofBicycle ⟨Nat.le_of_ble_eq_true rfl, Nat.le_of_ble_eq_true rfl⟩) hK hP hD hS hA ⟨rfl, rfl, rfl, rfl, rfl, rfl⟩ (jn_nd (is := [0]) hD rfl rfl) 0 9 rfl rfl rfl rfl rfl hl.1 (Nat.le_of_ble_eq_true rfl) dX11_faulty_18 (fun H18 locs18 hP' hD' hS' => ?_)
        replace hS := hS'
        replace hP : va_P (dC, dI) vwCl (fl [(w_X11 ad (b1) cs S1)]) H18 := hP'
        replace hD : va_D A (fl [(w_X11 ad (b1) cs S1)]) := hD'
        clear hP' hD' hS'
        refine lv_iadd hx hb dX11_faulty_21 ?_
        refine lv_istore_n (lv' := [(1, .int (v1_4 + q18)), (0, .ref (ad b1)), (2, .int v2_4)]) hx hb dX11_faulty_22 rfl hl (Nat.le_of_ble_eq_true rfl) rfl (fun ls hl => ?_)
        refine lv_iinc (v := (v2_4 + 1)) (lv' := [(2, .int (v2_4 + 1)), (1, .int (v1_4 + q18)), (0, .ref (ad b1))]) hx hb dX11_faulty_23 hl (k := 2) rfl rfl (Nat.le_of_ble_eq_true rfl) rfl (fun ls hl => ?_)
        refine lv_goto (tgt := 4) hx hb dX11_faulty_26 (by decide) ?_
        exact hI4 (v1_4 + q18) (v2_4 + 1) H18 _ ls hR hP hD hS (lv_sub hl [2, 1, 0] rfl)
  refine lv_iconst (v := 0) hx hb dX11_faulty_0 ic_0 ?_
  refine lv_istore_n (lv' := [(1, .int (0 : Int32)), (0, .ref (ad b1))]) hx hb dX11_faulty_1 rfl hl (Nat.le_of_ble_eq_true rfl) rfl (fun ls hl => ?_)
  refine lv_iconst (v := 0) hx hb dX11_faulty_2 ic_0 ?_
  refine lv_istore_n (lv' := [(2, .int (0 : Int32)), (1, .int (0 : Int32)), (0, .ref (ad b1))]) hx hb dX11_faulty_3 rfl hl (Nat.le_of_ble_eq_true rfl) rfl (fun ls hl => ?_)
  exact hB4 fuel (0 : Int32) (0 : Int32) s.heap _ ls hR hP hD hS (lv_sub hl [2, 1, 0] rfl)
set_option maxHeartbeats 8000000 in
set_option maxRecDepth 100000 in
theorem k_X11_report (l : Launch) (dC : Nat → ClassId) (dI : Nat → Nat → Nat) (cs : Nat → ClassId) (ad : Nat → Nat) (b1 : Nat) (sz : Nat) (S1 : T2) (p1 : Int32) (r : Int32) (u1 : T2) (hR : fX11_report S1 p1 = some (r, u1)) : Met l yX11_report wsX11_report ({ frames := 2, cells := 0, slots := 0, locals := 44 } : Room) (va_Pc [.ref (ad b1), .int p1] (pW dC dI (tyL cs) (fl [(w_X11 ad (b1) cs S1)]) sz)) (QI dC dI (tyL cs) (va_A (fl [(w_X11 ad (b1) cs S1)]) sz) (fl [(w_X11 ad (b1) cs u1)]) r) 0 0 (va_A (fl [(w_X11 ad (b1) cs S1)]) sz) := by
  refine mt_of (own := RX11) (cc := cX11_report) (maxL := 2) (ret := (some .int)) (Qc := fun A => QI dC dI (tyL cs) A (fl [(w_X11 ad (b1) cs u1)]) r) rfl (by decide) rfl (Nat.le_of_ble_eq_true rfl) (fun p e s m below meth c A ls hsz hx hb hr hts hown hlocks hml hA hK hP hD hS hl => ?_)
  subst hsz
  have hl : lv_has ls 2 [(0, .ref (ad b1)), (1, .int p1)] := hl
  have hF7 := hts (.fieldLink RX11 7 "DockedBikesModel" "s" "[I") (List.mem_of_getElem? (i := 1) rfl)
  have hinX11 : ∀ w ∈ wsX110, w ∈ wsX11_report := by decide +kernel
  refine lv_aload_n hx hb dX11_report_0 rfl (lv_at hl 0 rfl) ?_
  refine lv_iload_n hx hb dX11_report_1 rfl (lv_at hl 1 rfl) ?_
  replace hR := bd_e hR
  obtain ⟨q2, gq2, hR⟩ := hR
  refine cl_Vi (As := [.int p1]) (rest := []) (L := [(w_X11 ad (b1) cs S1)]) (L' := [(w_X11 ad (b1) cs S1)]) (Wc := [(w_X11 ad (b1) cs S1)]) (Wc' := [(w_X11 ad (b1) cs S1)]) (is := [0]) (js := []) ⟨hx, hb, hml, hown, hts⟩ (k_X11_isBicycle l dC dI cs ad (b1) s.heap.size S1 p1 q2 gq2) (cwV 1 hts gX11_report_X11_isBicycle rfl rfl rfl cd_X11_isBicycle ⟨Nat.le_of_ble_eq_true rfl, Nat.le_of_ble_eq_true rfl⟩) hK hP hD hS hA ⟨rfl, rfl, rfl, rfl, rfl, rfl⟩ (jn_nd (is := [0]) hD rfl rfl) 0 9 rfl rfl rfl rfl rfl hl.1 (Nat.le_of_ble_eq_true rfl) dX11_report_2 (fun H2 locs2 hP' hD' hS' => ?_)
  replace hS := hS'
  replace hP : va_P (dC, dI) vwCl (fl [(w_X11 ad (b1) cs S1)]) H2 := hP'
  replace hD : va_D A (fl [(w_X11 ad (b1) cs S1)]) := hD'
  clear hP' hD' hS'
  refine lv_if_ne (tgt := 10) hx hb dX11_report_5 (by decide) (fun c5 => ?_) (fun c5 => ?_)
  · replace hR := it_f hR c5
    refine lv_aload_n hx hb dX11_report_10 rfl (lv_at hl 0 rfl) ?_
    refine lv_iload_n hx hb dX11_report_11 rfl (lv_at hl 1 rfl) ?_
    refine lv_iconst (v := 0) hx hb dX11_report_12 ic_0 ?_
    replace hR := bd_e hR
    obtain ⟨q13, gq13, hR⟩ := hR
    refine cl_Vi (As := [.int p1, .int (0 : Int32)]) (rest := []) (L := [(w_X11 ad (b1) cs S1)]) (L' := [(w_X11 ad (b1) cs S1)]) (Wc := [(w_X11 ad (b1) cs S1)]) (Wc' := [(w_X11 ad (b1) cs S1)]) (is := [0]) (js := []) ⟨hx, hb, hml, hown, hts⟩ (k_X11_ofBicycle l dC dI cs ad (b1) H2.size S1 p1 (0 : Int32) q13 gq13) (cwV 2 hts gX11_report_X11_ofBicycle rfl rfl rfl cd_X11_ofBicycle ⟨Nat.le_of_ble_eq_true rfl, Nat.le_of_ble_eq_true rfl⟩) hK hP hD hS hA ⟨rfl, rfl, rfl, rfl, rfl, rfl⟩ (jn_nd (is := [0]) hD rfl rfl) 0 9 rfl rfl rfl rfl rfl hl.1 (Nat.le_of_ble_eq_true rfl) dX11_report_13 (fun H13 locs13 hP' hD' hS' => ?_)
    replace hS := hS'
    replace hP : va_P (dC, dI) vwCl (fl [(w_X11 ad (b1) cs S1)]) H13 := hP'
    replace hD : va_D A (fl [(w_X11 ad (b1) cs S1)]) := hD'
    clear hP' hD' hS'
    refine lv_iconst (v := 1) hx hb dX11_report_16 ic_1 ?_
    refine lv_icmp_gt (tgt := 30) hx hb dX11_report_17 (by decide) (fun c17 => ?_) (fun c17 => ?_)
    · replace hR := it_t hR c17
      refine lv_bipush (v := (-2)) hx hb dX11_report_30 bp_m2 ?_
      replace hR := Option.some.inj hR
      obtain ⟨e9, hR⟩ := Prod.mk.inj hR
      have eu1 := hR
      replace hP : va_P (dC, dI) vwCl (fl [(w_X11 ad (b1) cs u1)]) H13 := by rw [← eu1]; exact hP
      replace hD : va_D A (fl [(w_X11 ad (b1) cs u1)]) := by rw [← eu1]; exact hD
      exact W.iret hx hb hr (fun t ht hW => ⟨⟨_, (), rfl, e9, by rw [ht]; exact hP, va_K.moved hW.alike hK, hD⟩, hS.F ht⟩) hS.2.2 dX11_report_32
    · replace hR := it_f hR c17
      refine lv_aload_n hx hb dX11_report_20 rfl (lv_at hl 0 rfl) ?_
      refine lv_iload_n hx hb dX11_report_21 rfl (lv_at hl 1 rfl) ?_
      refine lv_iconst (v := 3) hx hb dX11_report_22 ic_3 ?_
      replace hR := bd_e hR
      obtain ⟨q23, gq23, hR⟩ := hR
      refine cl_Vi (As := [.int p1, .int (3 : Int32)]) (rest := []) (L := [(w_X11 ad (b1) cs S1)]) (L' := [(w_X11 ad (b1) cs S1)]) (Wc := [(w_X11 ad (b1) cs S1)]) (Wc' := [(w_X11 ad (b1) cs S1)]) (is := [0]) (js := []) ⟨hx, hb, hml, hown, hts⟩ (k_X11_ofBicycle l dC dI cs ad (b1) H13.size S1 p1 (3 : Int32) q23 gq23) (cwV 2 hts gX11_report_X11_ofBicycle rfl rfl rfl cd_X11_ofBicycle ⟨Nat.le_of_ble_eq_true rfl, Nat.le_of_ble_eq_true rfl⟩) hK hP hD hS hA ⟨rfl, rfl, rfl, rfl, rfl, rfl⟩ (jn_nd (is := [0]) hD rfl rfl) 0 9 rfl rfl rfl rfl rfl hl.1 (Nat.le_of_ble_eq_true rfl) dX11_report_23 (fun H23 locs23 hP' hD' hS' => ?_)
      replace hS := hS'
      replace hP : va_P (dC, dI) vwCl (fl [(w_X11 ad (b1) cs S1)]) H23 := hP'
      replace hD : va_D A (fl [(w_X11 ad (b1) cs S1)]) := hD'
      clear hP' hD' hS'
      refine lv_iconst (v := 1) hx hb dX11_report_26 ic_1 ?_
      refine lv_icmp_ne (tgt := 33) hx hb dX11_report_27 (by decide) (fun c27 => ?_) (fun c27 => ?_)
      · replace hR := it_f hR c27
        refine lv_aload_n hx hb dX11_report_33 rfl (lv_at hl 0 rfl) ?_
        replace hR := bd_e hR
        obtain ⟨q34, gq34, hR⟩ := hR
        refine cl_Vv (As := []) (rest := []) (L := [(w_X11 ad (b1) cs S1)]) (L' := [(w_X11 ad (b1) cs q34)]) (Wc := [(w_X11 ad (b1) cs S1)]) (Wc' := [(w_X11 ad (b1) cs q34)]) (is := [0]) (js := []) ⟨hx, hb, hml, hown, hts⟩ (k_X11_changes l dC dI cs ad (b1) H23.size S1 q34 gq34) (cwV 0 hts gX11_report_X11_changes rfl rfl rfl cd_X11_changes ⟨Nat.le_of_ble_eq_true rfl, Nat.le_of_ble_eq_true rfl⟩) hK hP hD hS hA ⟨rfl, rfl, rfl, rfl, rfl, rfl⟩ (jn_nd (is := [0]) hD rfl rfl) 0 9 rfl rfl rfl rfl rfl hl.1 (Nat.le_of_ble_eq_true rfl) dX11_report_34 (fun H34 locs34 hP' hD' hS' => ?_)
        replace hS := hS'
        replace hP : va_P (dC, dI) vwCl (fl [(w_X11 ad (b1) cs q34)]) H34 := hP'
        replace hD : va_D A (fl [(w_X11 ad (b1) cs q34)]) := hD'
        clear hP' hD' hS'
        refine lv_aload_n hx hb dX11_report_37 rfl (lv_at hl 0 rfl) ?_
        refine va_get (D := (dC, dI)) (ci := 9) (v := .ref (ad (b1 + 1))) (C := RX11) (T := TX11) (N := 14) hx hb hts hinX11 hown hK hP 0 rfl rfl 0 (by decide) hF7 (fun _ h9 => h9) rfl dX11_report_38 ?_
        refine lv_bipush (v := 32) hx hb dX11_report_41 bp_32 ?_
        refine lv_bipush (v := 6) hx hb dX11_report_43 bp_6 ?_
        refine lv_iload_n hx hb dX11_report_45 rfl (lv_at hl 1 rfl) ?_
        refine lv_imul hx hb dX11_report_46 ?_
        refine lv_iadd hx hb dX11_report_47 ?_
        refine lv_iconst (v := 3) hx hb dX11_report_48 ic_3 ?_
        refine lv_iadd hx hb dX11_report_49 ?_
        refine lv_iconst (v := 1) hx hb dX11_report_50 ic_1 ?_
        replace hR := gi_e hR
        obtain ⟨i51, hR⟩ := hR
        refine va_iast hx hb hK hP hD hS 1 0 rfl rfl i51 dX11_report_51 (fun H51 locs51 hP' hD' hS' => ?_)
        replace hS := hS'
        have hP' : va_P (dC, dI) vwCl (fl [(w_X11 ad (b1) cs (sU q34 0 (sU (q34 0) (((32 : Int32) + ((6 : Int32) * p1)) + 3).toNatClampNeg (1 : Int32))))]) H51 := hP'
        have hD' : va_D A (fl [(w_X11 ad (b1) cs (sU q34 0 (sU (q34 0) (((32 : Int32) + ((6 : Int32) * p1)) + 3).toNatClampNeg (1 : Int32))))]) := hD'
        replace hR := bn_e hR
        obtain ⟨S1_51, eS1_51, hR⟩ := hR
        replace hP : va_P (dC, dI) vwCl (fl [(w_X11 ad (b1) cs S1_51)]) H51 := by rw [eS1_51]; exact hP'
        replace hD : va_D A (fl [(w_X11 ad (b1) cs S1_51)]) := by rw [eS1_51]; exact hD'
        clear hP' hD' hS'
        refine lv_aload_n hx hb dX11_report_52 rfl (lv_at hl 0 rfl) ?_
        replace hR := bd_e hR
        obtain ⟨q53, gq53, hR⟩ := hR
        refine cl_Vi (As := []) (rest := []) (L := [(w_X11 ad (b1) cs S1_51)]) (L' := [(w_X11 ad (b1) cs S1_51)]) (Wc := [(w_X11 ad (b1) cs S1_51)]) (Wc' := [(w_X11 ad (b1) cs S1_51)]) (is := [0]) (js := []) ⟨hx, hb, hml, hown, hts⟩ (k_X11_faulty l dC dI cs ad (b1) H51.size S1_51 q53 gq53) (cwV 0 hts gX11_report_X11_faulty rfl rfl rfl cd_X11_faulty ⟨Nat.le_of_ble_eq_true rfl, Nat.le_of_ble_eq_true rfl⟩) hK hP hD hS hA ⟨rfl, rfl, rfl, rfl, rfl, rfl⟩ (jn_nd (is := [0]) hD rfl rfl) 0 9 rfl rfl rfl rfl rfl hl.1 (Nat.le_of_ble_eq_true rfl) dX11_report_53 (fun H53 locs53 hP' hD' hS' => ?_)
        replace hS := hS'
        replace hP : va_P (dC, dI) vwCl (fl [(w_X11 ad (b1) cs S1_51)]) H53 := hP'
        replace hD : va_D A (fl [(w_X11 ad (b1) cs S1_51)]) := hD'
        clear hP' hD' hS'
        replace hR := Option.some.inj hR
        obtain ⟨e9, hR⟩ := Prod.mk.inj hR
        have eu1 := hR
        replace hP : va_P (dC, dI) vwCl (fl [(w_X11 ad (b1) cs u1)]) H53 := by rw [← eu1]; exact hP
        replace hD : va_D A (fl [(w_X11 ad (b1) cs u1)]) := by rw [← eu1]; exact hD
        exact W.iret hx hb hr (fun t ht hW => ⟨⟨_, (), rfl, e9, by rw [ht]; exact hP, va_K.moved hW.alike hK, hD⟩, hS.F ht⟩) hS.2.2 dX11_report_56
      · replace hR := it_t hR c27
        refine lv_bipush (v := (-2)) hx hb dX11_report_30 bp_m2 ?_
        replace hR := Option.some.inj hR
        obtain ⟨e9, hR⟩ := Prod.mk.inj hR
        have eu1 := hR
        replace hP : va_P (dC, dI) vwCl (fl [(w_X11 ad (b1) cs u1)]) H23 := by rw [← eu1]; exact hP
        replace hD : va_D A (fl [(w_X11 ad (b1) cs u1)]) := by rw [← eu1]; exact hD
        exact W.iret hx hb hr (fun t ht hW => ⟨⟨_, (), rfl, e9, by rw [ht]; exact hP, va_K.moved hW.alike hK, hD⟩, hS.F ht⟩) hS.2.2 dX11_report_32
  · replace hR := it_t hR c5
    refine lv_iconst (v := (-1)) hx hb dX11_report_8 ic_m1 ?_
    replace hR := Option.some.inj hR
    obtain ⟨e9, hR⟩ := Prod.mk.inj hR
    have eu1 := hR
    replace hP : va_P (dC, dI) vwCl (fl [(w_X11 ad (b1) cs u1)]) H2 := by rw [← eu1]; exact hP
    replace hD : va_D A (fl [(w_X11 ad (b1) cs u1)]) := by rw [← eu1]; exact hD
    exact W.iret hx hb hr (fun t ht hW => ⟨⟨_, (), rfl, e9, by rw [ht]; exact hP, va_K.moved hW.alike hK, hD⟩, hS.F ht⟩) hS.2.2 dX11_report_9
set_option maxHeartbeats 8000000 in
set_option maxRecDepth 100000 in
theorem k_X11_isUnderWay (l : Launch) (dC : Nat → ClassId) (dI : Nat → Nat → Nat) (cs : Nat → ClassId) (ad : Nat → Nat) (b1 : Nat) (sz : Nat) (S1 : T2) (p1 : Int32) (r : Int32) (hR : fX11_isUnderWay S1 p1 = some r) : Met l yX11_isUnderWay wsX11_isUnderWay ({ frames := 1, cells := 0, slots := 0, locals := 22 } : Room) (va_Pc [.ref (ad b1), .int p1] (pW dC dI (tyL cs) (fl [(w_X11 ad (b1) cs S1)]) sz)) (QI dC dI (tyL cs) (va_A (fl [(w_X11 ad (b1) cs S1)]) sz) (fl [(w_X11 ad (b1) cs S1)]) r) 0 0 (va_A (fl [(w_X11 ad (b1) cs S1)]) sz) := by
  refine mt_of (own := RX11) (cc := cX11_isUnderWay) (maxL := 2) (ret := (some .boolean)) (Qc := fun A => QI dC dI (tyL cs) A (fl [(w_X11 ad (b1) cs S1)]) r) rfl (by decide) rfl (Nat.le_of_ble_eq_true rfl) (fun p e s m below meth c A ls hsz hx hb hr hts hown hlocks hml hA hK hP hD hS hl => ?_)
  subst hsz
  have hl : lv_has ls 2 [(0, .ref (ad b1)), (1, .int p1)] := hl
  have hF7 := hts (.fieldLink RX11 7 "DockedBikesModel" "s" "[I") (List.mem_of_getElem? (i := 1) rfl)
  have hinX11 : ∀ w ∈ wsX110, w ∈ wsX11_isUnderWay := by decide +kernel
  refine lv_aload_n hx hb dX11_isUnderWay_0 rfl (lv_at hl 0 rfl) ?_
  refine lv_iload_n hx hb dX11_isUnderWay_1 rfl (lv_at hl 1 rfl) ?_
  refine lv_iconst (v := 2) hx hb dX11_isUnderWay_2 ic_2 ?_
  replace hR := bd_e hR
  obtain ⟨q3, gq3, hR⟩ := hR
  refine cl_Vi (As := [.int p1, .int (2 : Int32)]) (rest := []) (L := [(w_X11 ad (b1) cs S1)]) (L' := [(w_X11 ad (b1) cs S1)]) (Wc := [(w_X11 ad (b1) cs S1)]) (Wc' := [(w_X11 ad (b1) cs S1)]) (is := [0]) (js := []) ⟨hx, hb, hml, hown, hts⟩ (k_X11_ofVan l dC dI cs ad (b1) s.heap.size S1 p1 (2 : Int32) q3 gq3) (cwV 2 hts gX11_isUnderWay_X11_ofVan rfl rfl rfl cd_X11_ofVan ⟨Nat.le_of_ble_eq_true rfl, Nat.le_of_ble_eq_true rfl⟩) hK hP hD hS hA ⟨rfl, rfl, rfl, rfl, rfl, rfl⟩ (jn_nd (is := [0]) hD rfl rfl) 0 9 rfl rfl rfl rfl rfl hl.1 (Nat.le_of_ble_eq_true rfl) dX11_isUnderWay_3 (fun H3 locs3 hP' hD' hS' => ?_)
  replace hS := hS'
  replace hP : va_P (dC, dI) vwCl (fl [(w_X11 ad (b1) cs S1)]) H3 := hP'
  replace hD : va_D A (fl [(w_X11 ad (b1) cs S1)]) := hD'
  clear hP' hD' hS'
  refine lv_aload_n hx hb dX11_isUnderWay_6 rfl (lv_at hl 0 rfl) ?_
  refine va_get (D := (dC, dI)) (ci := 9) (v := .ref (ad (b1 + 1))) (C := RX11) (T := TX11) (N := 14) hx hb hts hinX11 hown hK hP 0 rfl rfl 0 (by decide) hF7 (fun _ h9 => h9) rfl dX11_isUnderWay_7 ?_
  refine lv_iconst (v := 4) hx hb dX11_isUnderWay_10 ic_4 ?_
  refine va_iald hx hb hK hP 1 0 rfl rfl vi_4_206 dX11_isUnderWay_11 ?_
  refine lv_icmp_le (tgt := 19) hx hb dX11_isUnderWay_12 (by decide) (fun c12 => ?_) (fun c12 => ?_)
  · replace hR := it_t hR c12
    refine lv_iconst (v := 0) hx hb dX11_isUnderWay_19 ic_0 ?_
    replace hR := Option.some.inj hR
    have e9 := hR
    exact W.zret (ty := .boolean) hx hb hr (by decide) (fun t ht hW => ⟨⟨_, (), rfl, e9, by rw [ht]; exact hP, va_K.moved hW.alike hK, hD⟩, hS.F ht⟩) hS.2.2 dX11_isUnderWay_20
  · replace hR := it_f hR c12
    refine lv_iconst (v := 1) hx hb dX11_isUnderWay_15 ic_1 ?_
    refine lv_goto (tgt := 20) hx hb dX11_isUnderWay_16 (by decide) ?_
    replace hR := Option.some.inj hR
    have e9 := hR
    exact W.zret (ty := .boolean) hx hb hr (by decide) (fun t ht hW => ⟨⟨_, (), rfl, e9, by rw [ht]; exact hP, va_K.moved hW.alike hK, hD⟩, hS.F ht⟩) hS.2.2 dX11_isUnderWay_20
set_option maxHeartbeats 8000000 in
set_option maxRecDepth 100000 in
theorem k_X11_isAt (l : Launch) (dC : Nat → ClassId) (dI : Nat → Nat → Nat) (cs : Nat → ClassId) (ad : Nat → Nat) (b1 : Nat) (sz : Nat) (S1 : T2) (p1 : Int32) (p2 : Int32) (p3 : Int32) (r : Int32) (hR : fX11_isAt S1 p1 p2 p3 = some r) : Met l yX11_isAt wsX11_isAt ({ frames := 1, cells := 0, slots := 0, locals := 22 } : Room) (va_Pc [.ref (ad b1), .int p1, .int p2, .int p3] (pW dC dI (tyL cs) (fl [(w_X11 ad (b1) cs S1)]) sz)) (QI dC dI (tyL cs) (va_A (fl [(w_X11 ad (b1) cs S1)]) sz) (fl [(w_X11 ad (b1) cs S1)]) r) 0 0 (va_A (fl [(w_X11 ad (b1) cs S1)]) sz) := by
  refine mt_of (own := RX11) (cc := cX11_isAt) (maxL := 4) (ret := (some .boolean)) (Qc := fun A => QI dC dI (tyL cs) A (fl [(w_X11 ad (b1) cs S1)]) r) rfl (by decide) rfl (Nat.le_of_ble_eq_true rfl) (fun p e s m below meth c A ls hsz hx hb hr hts hown hlocks hml hA hK hP hD hS hl => ?_)
  subst hsz
  have hl : lv_has ls 4 [(0, .ref (ad b1)), (1, .int p1), (2, .int p2), (3, .int p3)] := hl
  refine lv_aload_n hx hb dX11_isAt_0 rfl (lv_at hl 0 rfl) ?_
  refine lv_iload_n hx hb dX11_isAt_1 rfl (lv_at hl 1 rfl) ?_
  refine lv_iconst (v := 0) hx hb dX11_isAt_2 ic_0 ?_
  replace hR := bd_e hR
  obtain ⟨q3, gq3, hR⟩ := hR
  refine cl_Vi (As := [.int p1, .int (0 : Int32)]) (rest := []) (L := [(w_X11 ad (b1) cs S1)]) (L' := [(w_X11 ad (b1) cs S1)]) (Wc := [(w_X11 ad (b1) cs S1)]) (Wc' := [(w_X11 ad (b1) cs S1)]) (is := [0]) (js := []) ⟨hx, hb, hml, hown, hts⟩ (k_X11_ofBicycle l dC dI cs ad (b1) s.heap.size S1 p1 (0 : Int32) q3 gq3) (cwV 2 hts gX11_isAt_X11_ofBicycle rfl rfl rfl cd_X11_ofBicycle ⟨Nat.le_of_ble_eq_true rfl, Nat.le_of_ble_eq_true rfl⟩) hK hP hD hS hA ⟨rfl, rfl, rfl, rfl, rfl, rfl⟩ (jn_nd (is := [0]) hD rfl rfl) 0 9 rfl rfl rfl rfl rfl hl.1 (Nat.le_of_ble_eq_true rfl) dX11_isAt_3 (fun H3 locs3 hP' hD' hS' => ?_)
  replace hS := hS'
  replace hP : va_P (dC, dI) vwCl (fl [(w_X11 ad (b1) cs S1)]) H3 := hP'
  replace hD : va_D A (fl [(w_X11 ad (b1) cs S1)]) := hD'
  clear hP' hD' hS'
  refine lv_iload_n hx hb dX11_isAt_6 rfl (lv_at hl 2 rfl) ?_
  refine lv_icmp_ne (tgt := 24) hx hb dX11_isAt_7 (by decide) (fun c7 => ?_) (fun c7 => ?_)
  · replace hR := it_f hR c7
    refine lv_iconst (v := 0) hx hb dX11_isAt_24 ic_0 ?_
    replace hR := Option.some.inj hR
    have e9 := hR
    exact W.zret (ty := .boolean) hx hb hr (by decide) (fun t ht hW => ⟨⟨_, (), rfl, e9, by rw [ht]; exact hP, va_K.moved hW.alike hK, hD⟩, hS.F ht⟩) hS.2.2 dX11_isAt_25
  · replace hR := it_t hR c7
    refine lv_aload_n hx hb dX11_isAt_10 rfl (lv_at hl 0 rfl) ?_
    refine lv_iload_n hx hb dX11_isAt_11 rfl (lv_at hl 1 rfl) ?_
    refine lv_iconst (v := 1) hx hb dX11_isAt_12 ic_1 ?_
    replace hR := bd_e hR
    obtain ⟨q13, gq13, hR⟩ := hR
    refine cl_Vi (As := [.int p1, .int (1 : Int32)]) (rest := []) (L := [(w_X11 ad (b1) cs S1)]) (L' := [(w_X11 ad (b1) cs S1)]) (Wc := [(w_X11 ad (b1) cs S1)]) (Wc' := [(w_X11 ad (b1) cs S1)]) (is := [0]) (js := []) ⟨hx, hb, hml, hown, hts⟩ (k_X11_ofBicycle l dC dI cs ad (b1) H3.size S1 p1 (1 : Int32) q13 gq13) (cwV 2 hts gX11_isAt_X11_ofBicycle rfl rfl rfl cd_X11_ofBicycle ⟨Nat.le_of_ble_eq_true rfl, Nat.le_of_ble_eq_true rfl⟩) hK hP hD hS hA ⟨rfl, rfl, rfl, rfl, rfl, rfl⟩ (jn_nd (is := [0]) hD rfl rfl) 0 9 rfl rfl rfl rfl rfl hl.1 (Nat.le_of_ble_eq_true rfl) dX11_isAt_13 (fun H13 locs13 hP' hD' hS' => ?_)
    replace hS := hS'
    replace hP : va_P (dC, dI) vwCl (fl [(w_X11 ad (b1) cs S1)]) H13 := hP'
    replace hD : va_D A (fl [(w_X11 ad (b1) cs S1)]) := hD'
    clear hP' hD' hS'
    refine lv_iload_n hx hb dX11_isAt_16 rfl (lv_at hl 3 rfl) ?_
    refine lv_icmp_ne (tgt := 24) hx hb dX11_isAt_17 (by decide) (fun c17 => ?_) (fun c17 => ?_)
    · replace hR := it_f hR c17
      refine lv_iconst (v := 0) hx hb dX11_isAt_24 ic_0 ?_
      replace hR := Option.some.inj hR
      have e9 := hR
      exact W.zret (ty := .boolean) hx hb hr (by decide) (fun t ht hW => ⟨⟨_, (), rfl, e9, by rw [ht]; exact hP, va_K.moved hW.alike hK, hD⟩, hS.F ht⟩) hS.2.2 dX11_isAt_25
    · replace hR := it_t hR c17
      refine lv_iconst (v := 1) hx hb dX11_isAt_20 ic_1 ?_
      refine lv_goto (tgt := 25) hx hb dX11_isAt_21 (by decide) ?_
      replace hR := Option.some.inj hR
      have e9 := hR
      exact W.zret (ty := .boolean) hx hb hr (by decide) (fun t ht hW => ⟨⟨_, (), rfl, e9, by rw [ht]; exact hP, va_K.moved hW.alike hK, hD⟩, hS.F ht⟩) hS.2.2 dX11_isAt_25
set_option maxHeartbeats 8000000 in
set_option maxRecDepth 100000 in
theorem k_X11_carried (l : Launch) (dC : Nat → ClassId) (dI : Nat → Nat → Nat) (cs : Nat → ClassId) (ad : Nat → Nat) (b1 : Nat) (sz : Nat) (S1 : T2) (p1 : Int32) (r : Int32) (hR : fX11_carried S1 p1 = some r) : Met l yX11_carried wsX11_carried ({ frames := 2, cells := 0, slots := 0, locals := 46 } : Room) (va_Pc [.ref (ad b1), .int p1] (pW dC dI (tyL cs) (fl [(w_X11 ad (b1) cs S1)]) sz)) (QI dC dI (tyL cs) (va_A (fl [(w_X11 ad (b1) cs S1)]) sz) (fl [(w_X11 ad (b1) cs S1)]) r) 0 0 (va_A (fl [(w_X11 ad (b1) cs S1)]) sz) := by
  refine mt_of (own := RX11) (cc := cX11_carried) (maxL := 2) (ret := (some .int)) (Qc := fun A => QI dC dI (tyL cs) A (fl [(w_X11 ad (b1) cs S1)]) r) rfl (by decide) rfl (Nat.le_of_ble_eq_true rfl) (fun p e s m below meth c A ls hsz hx hb hr hts hown hlocks hml hA hK hP hD hS hl => ?_)
  subst hsz
  have hl : lv_has ls 2 [(0, .ref (ad b1)), (1, .int p1)] := hl
  refine lv_aload_n hx hb dX11_carried_0 rfl (lv_at hl 0 rfl) ?_
  refine lv_iconst (v := 2) hx hb dX11_carried_1 ic_2 ?_
  refine lv_iload_n hx hb dX11_carried_2 rfl (lv_at hl 1 rfl) ?_
  replace hR := bd_e hR
  obtain ⟨q3, gq3, hR⟩ := hR
  refine cl_Vi (As := [.int (2 : Int32), .int p1]) (rest := []) (L := [(w_X11 ad (b1) cs S1)]) (L' := [(w_X11 ad (b1) cs S1)]) (Wc := [(w_X11 ad (b1) cs S1)]) (Wc' := [(w_X11 ad (b1) cs S1)]) (is := [0]) (js := []) ⟨hx, hb, hml, hown, hts⟩ (k_X11_those l dC dI cs ad (b1) s.heap.size S1 (2 : Int32) p1 q3 gq3) (cwV 2 hts gX11_carried_X11_those rfl rfl rfl cd_X11_those ⟨Nat.le_of_ble_eq_true rfl, Nat.le_of_ble_eq_true rfl⟩) hK hP hD hS hA ⟨rfl, rfl, rfl, rfl, rfl, rfl⟩ (jn_nd (is := [0]) hD rfl rfl) 0 9 rfl rfl rfl rfl rfl hl.1 (Nat.le_of_ble_eq_true rfl) dX11_carried_3 (fun H3 locs3 hP' hD' hS' => ?_)
  replace hS := hS'
  replace hP : va_P (dC, dI) vwCl (fl [(w_X11 ad (b1) cs S1)]) H3 := hP'
  replace hD : va_D A (fl [(w_X11 ad (b1) cs S1)]) := hD'
  clear hP' hD' hS'
  replace hR := bd_e hR
  obtain ⟨q6, gq6, hR⟩ := hR
  refine cl_Si (As := [.int q3]) (rest := []) (L := [(w_X11 ad (b1) cs S1)]) (L' := [(w_X11 ad (b1) cs S1)]) (Wc := []) (Wc' := []) (is := []) (js := [0]) ⟨hx, hb, hml, hown, hts⟩ (k_X11_ones l dC dI cs ad H3.size q3 q6 gq6) (cwS 1 hts gX11_carried_X11_ones rfl rfl rfl cd_X11_ones ⟨Nat.le_of_ble_eq_true rfl, Nat.le_of_ble_eq_true rfl⟩) hK hP hD hS hA ⟨rfl, rfl, rfl, rfl, rfl, rfl⟩ (jn_nd (is := []) hD rfl rfl) rfl rfl hl.1 (Nat.le_of_ble_eq_true rfl) dX11_carried_6 (fun H6 locs6 hP' hD' hS' => ?_)
  replace hS := hS'
  replace hP : va_P (dC, dI) vwCl (fl [(w_X11 ad (b1) cs S1)]) H6 := hP'
  replace hD : va_D A (fl [(w_X11 ad (b1) cs S1)]) := hD'
  clear hP' hD' hS'
  replace hR := Option.some.inj hR
  have e9 := hR
  exact W.iret hx hb hr (fun t ht hW => ⟨⟨_, (), rfl, e9, by rw [ht]; exact hP, va_K.moved hW.alike hK, hD⟩, hS.F ht⟩) hS.2.2 dX11_carried_9
set_option maxHeartbeats 8000000 in
set_option maxRecDepth 100000 in
theorem k_X11_take (l : Launch) (dC : Nat → ClassId) (dI : Nat → Nat → Nat) (cs : Nat → ClassId) (ad : Nat → Nat) (b1 : Nat) (sz : Nat) (S1 : T2) (p1 : Int32) (p2 : Int32) (r : Int32) (u1 : T2) (hR : fX11_take S1 p1 p2 = some (r, u1)) : Met l yX11_take wsX11_take ({ frames := 3, cells := 0, slots := 0, locals := 67 } : Room) (va_Pc [.ref (ad b1), .int p1, .int p2] (pW dC dI (tyL cs) (fl [(w_X11 ad (b1) cs S1)]) sz)) (QI dC dI (tyL cs) (va_A (fl [(w_X11 ad (b1) cs S1)]) sz) (fl [(w_X11 ad (b1) cs u1)]) r) 0 0 (va_A (fl [(w_X11 ad (b1) cs S1)]) sz) := by
  refine mt_of (own := RX11) (cc := cX11_take) (maxL := 3) (ret := (some .int)) (Qc := fun A => QI dC dI (tyL cs) A (fl [(w_X11 ad (b1) cs u1)]) r) rfl (by decide) rfl (Nat.le_of_ble_eq_true rfl) (fun p e s m below meth c A ls hsz hx hb hr hts hown hlocks hml hA hK hP hD hS hl => ?_)
  subst hsz
  have hl : lv_has ls 3 [(0, .ref (ad b1)), (1, .int p1), (2, .int p2)] := hl
  refine lv_aload_n hx hb dX11_take_0 rfl (lv_at hl 0 rfl) ?_
  refine lv_iload_n hx hb dX11_take_1 rfl (lv_at hl 1 rfl) ?_
  replace hR := bd_e hR
  obtain ⟨q2, gq2, hR⟩ := hR
  refine cl_Vi (As := [.int p1]) (rest := []) (L := [(w_X11 ad (b1) cs S1)]) (L' := [(w_X11 ad (b1) cs S1)]) (Wc := [(w_X11 ad (b1) cs S1)]) (Wc' := [(w_X11 ad (b1) cs S1)]) (is := [0]) (js := []) ⟨hx, hb, hml, hown, hts⟩ (k_X11_isVan l dC dI cs ad (b1) s.heap.size S1 p1 q2 gq2) (cwV 1 hts gX11_take_X11_isVan rfl rfl rfl cd_X11_isVan ⟨Nat.le_of_ble_eq_true rfl, Nat.le_of_ble_eq_true rfl⟩) hK hP hD hS hA ⟨rfl, rfl, rfl, rfl, rfl, rfl⟩ (jn_nd (is := [0]) hD rfl rfl) 0 9 rfl rfl rfl rfl rfl hl.1 (Nat.le_of_ble_eq_true rfl) dX11_take_2 (fun H2 locs2 hP' hD' hS' => ?_)
  replace hS := hS'
  replace hP : va_P (dC, dI) vwCl (fl [(w_X11 ad (b1) cs S1)]) H2 := hP'
  replace hD : va_D A (fl [(w_X11 ad (b1) cs S1)]) := hD'
  clear hP' hD' hS'
  refine lv_if_eq (tgt := 16) hx hb dX11_take_5 (by decide) (fun c5 => ?_) (fun c5 => ?_)
  · replace hR := it_t hR c5
    refine lv_iconst (v := (-1)) hx hb dX11_take_16 ic_m1 ?_
    replace hR := Option.some.inj hR
    obtain ⟨e9, hR⟩ := Prod.mk.inj hR
    have eu1 := hR
    replace hP : va_P (dC, dI) vwCl (fl [(w_X11 ad (b1) cs u1)]) H2 := by rw [← eu1]; exact hP
    replace hD : va_D A (fl [(w_X11 ad (b1) cs u1)]) := by rw [← eu1]; exact hD
    exact W.iret hx hb hr (fun t ht hW => ⟨⟨_, (), rfl, e9, by rw [ht]; exact hP, va_K.moved hW.alike hK, hD⟩, hS.F ht⟩) hS.2.2 dX11_take_17
  · replace hR := it_f hR c5
    refine lv_aload_n hx hb dX11_take_8 rfl (lv_at hl 0 rfl) ?_
    refine lv_iload_n hx hb dX11_take_9 rfl (lv_at hl 2 rfl) ?_
    replace hR := bd_e hR
    obtain ⟨q10, gq10, hR⟩ := hR
    refine cl_Vi (As := [.int p2]) (rest := []) (L := [(w_X11 ad (b1) cs S1)]) (L' := [(w_X11 ad (b1) cs S1)]) (Wc := [(w_X11 ad (b1) cs S1)]) (Wc' := [(w_X11 ad (b1) cs S1)]) (is := [0]) (js := []) ⟨hx, hb, hml, hown, hts⟩ (k_X11_isBicycle l dC dI cs ad (b1) H2.size S1 p2 q10 gq10) (cwV 1 hts gX11_take_X11_isBicycle rfl rfl rfl cd_X11_isBicycle ⟨Nat.le_of_ble_eq_true rfl, Nat.le_of_ble_eq_true rfl⟩) hK hP hD hS hA ⟨rfl, rfl, rfl, rfl, rfl, rfl⟩ (jn_nd (is := [0]) hD rfl rfl) 0 9 rfl rfl rfl rfl rfl hl.1 (Nat.le_of_ble_eq_true rfl) dX11_take_10 (fun H10 locs10 hP' hD' hS' => ?_)
    replace hS := hS'
    replace hP : va_P (dC, dI) vwCl (fl [(w_X11 ad (b1) cs S1)]) H10 := hP'
    replace hD : va_D A (fl [(w_X11 ad (b1) cs S1)]) := hD'
    clear hP' hD' hS'
    refine lv_if_ne (tgt := 18) hx hb dX11_take_13 (by decide) (fun c13 => ?_) (fun c13 => ?_)
    · replace hR := it_f hR c13
      refine lv_aload_n hx hb dX11_take_18 rfl (lv_at hl 0 rfl) ?_
      refine lv_iload_n hx hb dX11_take_19 rfl (lv_at hl 1 rfl) ?_
      replace hR := bd_e hR
      obtain ⟨q20, gq20, hR⟩ := hR
      refine cl_Vi (As := [.int p1]) (rest := []) (L := [(w_X11 ad (b1) cs S1)]) (L' := [(w_X11 ad (b1) cs S1)]) (Wc := [(w_X11 ad (b1) cs S1)]) (Wc' := [(w_X11 ad (b1) cs S1)]) (is := [0]) (js := []) ⟨hx, hb, hml, hown, hts⟩ (k_X11_isUnderWay l dC dI cs ad (b1) H10.size S1 p1 q20 gq20) (cwV 1 hts gX11_take_X11_isUnderWay rfl rfl rfl cd_X11_isUnderWay ⟨Nat.le_of_ble_eq_true rfl, Nat.le_of_ble_eq_true rfl⟩) hK hP hD hS hA ⟨rfl, rfl, rfl, rfl, rfl, rfl⟩ (jn_nd (is := [0]) hD rfl rfl) 0 9 rfl rfl rfl rfl rfl hl.1 (Nat.le_of_ble_eq_true rfl) dX11_take_20 (fun H20 locs20 hP' hD' hS' => ?_)
      replace hS := hS'
      replace hP : va_P (dC, dI) vwCl (fl [(w_X11 ad (b1) cs S1)]) H20 := hP'
      replace hD : va_D A (fl [(w_X11 ad (b1) cs S1)]) := hD'
      clear hP' hD' hS'
      refine lv_if_ne (tgt := 55) hx hb dX11_take_23 (by decide) (fun c23 => ?_) (fun c23 => ?_)
      · replace hR := it_f hR c23
        refine lv_bipush (v := (-2)) hx hb dX11_take_55 bp_m2 ?_
        replace hR := Option.some.inj hR
        obtain ⟨e9, hR⟩ := Prod.mk.inj hR
        have eu1 := hR
        replace hP : va_P (dC, dI) vwCl (fl [(w_X11 ad (b1) cs u1)]) H20 := by rw [← eu1]; exact hP
        replace hD : va_D A (fl [(w_X11 ad (b1) cs u1)]) := by rw [← eu1]; exact hD
        exact W.iret hx hb hr (fun t ht hW => ⟨⟨_, (), rfl, e9, by rw [ht]; exact hP, va_K.moved hW.alike hK, hD⟩, hS.F ht⟩) hS.2.2 dX11_take_57
      · replace hR := it_t hR c23
        refine lv_aload_n hx hb dX11_take_26 rfl (lv_at hl 0 rfl) ?_
        refine lv_iload_n hx hb dX11_take_27 rfl (lv_at hl 1 rfl) ?_
        replace hR := bd_e hR
        obtain ⟨q28, gq28, hR⟩ := hR
        refine cl_Vi (As := [.int p1]) (rest := []) (L := [(w_X11 ad (b1) cs S1)]) (L' := [(w_X11 ad (b1) cs S1)]) (Wc := [(w_X11 ad (b1) cs S1)]) (Wc' := [(w_X11 ad (b1) cs S1)]) (is := [0]) (js := []) ⟨hx, hb, hml, hown, hts⟩ (k_X11_carried l dC dI cs ad (b1) H20.size S1 p1 q28 gq28) (cwV 1 hts gX11_take_X11_carried rfl rfl rfl cd_X11_carried ⟨Nat.le_of_ble_eq_true rfl, Nat.le_of_ble_eq_true rfl⟩) hK hP hD hS hA ⟨rfl, rfl, rfl, rfl, rfl, rfl⟩ (jn_nd (is := [0]) hD rfl rfl) 0 9 rfl rfl rfl rfl rfl hl.1 (Nat.le_of_ble_eq_true rfl) dX11_take_28 (fun H28 locs28 hP' hD' hS' => ?_)
        replace hS := hS'
        replace hP : va_P (dC, dI) vwCl (fl [(w_X11 ad (b1) cs S1)]) H28 := hP'
        replace hD : va_D A (fl [(w_X11 ad (b1) cs S1)]) := hD'
        clear hP' hD' hS'
        refine lv_aload_n hx hb dX11_take_31 rfl (lv_at hl 0 rfl) ?_
        refine lv_iload_n hx hb dX11_take_32 rfl (lv_at hl 1 rfl) ?_
        refine lv_iconst (v := 1) hx hb dX11_take_33 ic_1 ?_
        replace hR := bd_e hR
        obtain ⟨q34, gq34, hR⟩ := hR
        refine cl_Vi (As := [.int p1, .int (1 : Int32)]) (rest := [.int q28]) (L := [(w_X11 ad (b1) cs S1)]) (L' := [(w_X11 ad (b1) cs S1)]) (Wc := [(w_X11 ad (b1) cs S1)]) (Wc' := [(w_X11 ad (b1) cs S1)]) (is := [0]) (js := []) ⟨hx, hb, hml, hown, hts⟩ (k_X11_ofVan l dC dI cs ad (b1) H28.size S1 p1 (1 : Int32) q34 gq34) (cwV 2 hts gX11_take_X11_ofVan rfl rfl rfl cd_X11_ofVan ⟨Nat.le_of_ble_eq_true rfl, Nat.le_of_ble_eq_true rfl⟩) hK hP hD hS hA ⟨rfl, rfl, rfl, rfl, rfl, rfl⟩ (jn_nd (is := [0]) hD rfl rfl) 0 9 rfl rfl rfl rfl rfl hl.1 (Nat.le_of_ble_eq_true rfl) dX11_take_34 (fun H34 locs34 hP' hD' hS' => ?_)
        replace hS := hS'
        replace hP : va_P (dC, dI) vwCl (fl [(w_X11 ad (b1) cs S1)]) H34 := hP'
        replace hD : va_D A (fl [(w_X11 ad (b1) cs S1)]) := hD'
        clear hP' hD' hS'
        refine lv_icmp_eq (tgt := 55) hx hb dX11_take_37 (by decide) (fun c37 => ?_) (fun c37 => ?_)
        · replace hR := it_t hR c37
          refine lv_bipush (v := (-2)) hx hb dX11_take_55 bp_m2 ?_
          replace hR := Option.some.inj hR
          obtain ⟨e9, hR⟩ := Prod.mk.inj hR
          have eu1 := hR
          replace hP : va_P (dC, dI) vwCl (fl [(w_X11 ad (b1) cs u1)]) H34 := by rw [← eu1]; exact hP
          replace hD : va_D A (fl [(w_X11 ad (b1) cs u1)]) := by rw [← eu1]; exact hD
          exact W.iret hx hb hr (fun t ht hW => ⟨⟨_, (), rfl, e9, by rw [ht]; exact hP, va_K.moved hW.alike hK, hD⟩, hS.F ht⟩) hS.2.2 dX11_take_57
        · replace hR := it_f hR c37
          refine lv_aload_n hx hb dX11_take_40 rfl (lv_at hl 0 rfl) ?_
          refine lv_iload_n hx hb dX11_take_41 rfl (lv_at hl 2 rfl) ?_
          refine lv_iconst (v := 0) hx hb dX11_take_42 ic_0 ?_
          refine lv_aload_n hx hb dX11_take_43 rfl (lv_at hl 0 rfl) ?_
          refine lv_iload_n hx hb dX11_take_44 rfl (lv_at hl 1 rfl) ?_
          refine lv_iconst (v := 0) hx hb dX11_take_45 ic_0 ?_
          replace hR := bd_e hR
          obtain ⟨q46, gq46, hR⟩ := hR
          refine cl_Vi (As := [.int p1, .int (0 : Int32)]) (rest := [.int (0 : Int32), .int p2, .ref (ad b1)]) (L := [(w_X11 ad (b1) cs S1)]) (L' := [(w_X11 ad (b1) cs S1)]) (Wc := [(w_X11 ad (b1) cs S1)]) (Wc' := [(w_X11 ad (b1) cs S1)]) (is := [0]) (js := []) ⟨hx, hb, hml, hown, hts⟩ (k_X11_ofVan l dC dI cs ad (b1) H34.size S1 p1 (0 : Int32) q46 gq46) (cwV 2 hts gX11_take_X11_ofVan rfl rfl rfl cd_X11_ofVan ⟨Nat.le_of_ble_eq_true rfl, Nat.le_of_ble_eq_true rfl⟩) hK hP hD hS hA ⟨rfl, rfl, rfl, rfl, rfl, rfl⟩ (jn_nd (is := [0]) hD rfl rfl) 0 9 rfl rfl rfl rfl rfl hl.1 (Nat.le_of_ble_eq_true rfl) dX11_take_46 (fun H46 locs46 hP' hD' hS' => ?_)
          replace hS := hS'
          replace hP : va_P (dC, dI) vwCl (fl [(w_X11 ad (b1) cs S1)]) H46 := hP'
          replace hD : va_D A (fl [(w_X11 ad (b1) cs S1)]) := hD'
          clear hP' hD' hS'
          replace hR := bd_e hR
          obtain ⟨q49, gq49, hR⟩ := hR
          refine cl_Vi (As := [.int p2, .int (0 : Int32), .int q46]) (rest := []) (L := [(w_X11 ad (b1) cs S1)]) (L' := [(w_X11 ad (b1) cs S1)]) (Wc := [(w_X11 ad (b1) cs S1)]) (Wc' := [(w_X11 ad (b1) cs S1)]) (is := [0]) (js := []) ⟨hx, hb, hml, hown, hts⟩ (k_X11_isAt l dC dI cs ad (b1) H46.size S1 p2 (0 : Int32) q46 q49 gq49) (cwV 3 hts gX11_take_X11_isAt rfl rfl rfl cd_X11_isAt ⟨Nat.le_of_ble_eq_true rfl, Nat.le_of_ble_eq_true rfl⟩) hK hP hD hS hA ⟨rfl, rfl, rfl, rfl, rfl, rfl⟩ (jn_nd (is := [0]) hD rfl rfl) 0 9 rfl rfl rfl rfl rfl hl.1 (Nat.le_of_ble_eq_true rfl) dX11_take_49 (fun H49 locs49 hP' hD' hS' => ?_)
          replace hS := hS'
          replace hP : va_P (dC, dI) vwCl (fl [(w_X11 ad (b1) cs S1)]) H49 := hP'
          replace hD : va_D A (fl [(w_X11 ad (b1) cs S1)]) := hD'
          clear hP' hD' hS'
          refine lv_if_ne (tgt := 58) hx hb dX11_take_52 (by decide) (fun c52 => ?_) (fun c52 => ?_)
          · replace hR := it_f hR c52
            refine lv_aload_n hx hb dX11_take_58 rfl (lv_at hl 0 rfl) ?_
            replace hR := bd_e hR
            obtain ⟨q59, gq59, hR⟩ := hR
            refine cl_Vv (As := []) (rest := []) (L := [(w_X11 ad (b1) cs S1)]) (L' := [(w_X11 ad (b1) cs q59)]) (Wc := [(w_X11 ad (b1) cs S1)]) (Wc' := [(w_X11 ad (b1) cs q59)]) (is := [0]) (js := []) ⟨hx, hb, hml, hown, hts⟩ (k_X11_changes l dC dI cs ad (b1) H49.size S1 q59 gq59) (cwV 0 hts gX11_take_X11_changes rfl rfl rfl cd_X11_changes ⟨Nat.le_of_ble_eq_true rfl, Nat.le_of_ble_eq_true rfl⟩) hK hP hD hS hA ⟨rfl, rfl, rfl, rfl, rfl, rfl⟩ (jn_nd (is := [0]) hD rfl rfl) 0 9 rfl rfl rfl rfl rfl hl.1 (Nat.le_of_ble_eq_true rfl) dX11_take_59 (fun H59 locs59 hP' hD' hS' => ?_)
            replace hS := hS'
            replace hP : va_P (dC, dI) vwCl (fl [(w_X11 ad (b1) cs q59)]) H59 := hP'
            replace hD : va_D A (fl [(w_X11 ad (b1) cs q59)]) := hD'
            clear hP' hD' hS'
            refine lv_aload_n hx hb dX11_take_62 rfl (lv_at hl 0 rfl) ?_
            refine lv_iload_n hx hb dX11_take_63 rfl (lv_at hl 2 rfl) ?_
            refine lv_iconst (v := 2) hx hb dX11_take_64 ic_2 ?_
            refine lv_iload_n hx hb dX11_take_65 rfl (lv_at hl 1 rfl) ?_
            replace hR := bd_e hR
            obtain ⟨q66, gq66, hR⟩ := hR
            refine cl_Vv (As := [.int p2, .int (2 : Int32), .int p1]) (rest := []) (L := [(w_X11 ad (b1) cs q59)]) (L' := [(w_X11 ad (b1) cs q66)]) (Wc := [(w_X11 ad (b1) cs q59)]) (Wc' := [(w_X11 ad (b1) cs q66)]) (is := [0]) (js := []) ⟨hx, hb, hml, hown, hts⟩ (k_X11_puts l dC dI cs ad (b1) H59.size q59 p2 (2 : Int32) p1 q66 gq66) (cwV 3 hts gX11_take_X11_puts rfl rfl rfl cd_X11_puts ⟨Nat.le_of_ble_eq_true rfl, Nat.le_of_ble_eq_true rfl⟩) hK hP hD hS hA ⟨rfl, rfl, rfl, rfl, rfl, rfl⟩ (jn_nd (is := [0]) hD rfl rfl) 0 9 rfl rfl rfl rfl rfl hl.1 (Nat.le_of_ble_eq_true rfl) dX11_take_66 (fun H66 locs66 hP' hD' hS' => ?_)
            replace hS := hS'
            replace hP : va_P (dC, dI) vwCl (fl [(w_X11 ad (b1) cs q66)]) H66 := hP'
            replace hD : va_D A (fl [(w_X11 ad (b1) cs q66)]) := hD'
            clear hP' hD' hS'
            refine lv_aload_n hx hb dX11_take_69 rfl (lv_at hl 0 rfl) ?_
            refine lv_iload_n hx hb dX11_take_70 rfl (lv_at hl 1 rfl) ?_
            replace hR := bd_e hR
            obtain ⟨q71, gq71, hR⟩ := hR
            refine cl_Vi (As := [.int p1]) (rest := []) (L := [(w_X11 ad (b1) cs q66)]) (L' := [(w_X11 ad (b1) cs q66)]) (Wc := [(w_X11 ad (b1) cs q66)]) (Wc' := [(w_X11 ad (b1) cs q66)]) (is := [0]) (js := []) ⟨hx, hb, hml, hown, hts⟩ (k_X11_carried l dC dI cs ad (b1) H66.size q66 p1 q71 gq71) (cwV 1 hts gX11_take_X11_carried rfl rfl rfl cd_X11_carried ⟨Nat.le_of_ble_eq_true rfl, Nat.le_of_ble_eq_true rfl⟩) hK hP hD hS hA ⟨rfl, rfl, rfl, rfl, rfl, rfl⟩ (jn_nd (is := [0]) hD rfl rfl) 0 9 rfl rfl rfl rfl rfl hl.1 (Nat.le_of_ble_eq_true rfl) dX11_take_71 (fun H71 locs71 hP' hD' hS' => ?_)
            replace hS := hS'
            replace hP : va_P (dC, dI) vwCl (fl [(w_X11 ad (b1) cs q66)]) H71 := hP'
            replace hD : va_D A (fl [(w_X11 ad (b1) cs q66)]) := hD'
            clear hP' hD' hS'
            replace hR := Option.some.inj hR
            obtain ⟨e9, hR⟩ := Prod.mk.inj hR
            have eu1 := hR
            replace hP : va_P (dC, dI) vwCl (fl [(w_X11 ad (b1) cs u1)]) H71 := by rw [← eu1]; exact hP
            replace hD : va_D A (fl [(w_X11 ad (b1) cs u1)]) := by rw [← eu1]; exact hD
            exact W.iret hx hb hr (fun t ht hW => ⟨⟨_, (), rfl, e9, by rw [ht]; exact hP, va_K.moved hW.alike hK, hD⟩, hS.F ht⟩) hS.2.2 dX11_take_74
          · replace hR := it_t hR c52
            refine lv_bipush (v := (-2)) hx hb dX11_take_55 bp_m2 ?_
            replace hR := Option.some.inj hR
            obtain ⟨e9, hR⟩ := Prod.mk.inj hR
            have eu1 := hR
            replace hP : va_P (dC, dI) vwCl (fl [(w_X11 ad (b1) cs u1)]) H49 := by rw [← eu1]; exact hP
            replace hD : va_D A (fl [(w_X11 ad (b1) cs u1)]) := by rw [← eu1]; exact hD
            exact W.iret hx hb hr (fun t ht hW => ⟨⟨_, (), rfl, e9, by rw [ht]; exact hP, va_K.moved hW.alike hK, hD⟩, hS.F ht⟩) hS.2.2 dX11_take_57
    · replace hR := it_t hR c13
      refine lv_iconst (v := (-1)) hx hb dX11_take_16 ic_m1 ?_
      replace hR := Option.some.inj hR
      obtain ⟨e9, hR⟩ := Prod.mk.inj hR
      have eu1 := hR
      replace hP : va_P (dC, dI) vwCl (fl [(w_X11 ad (b1) cs u1)]) H10 := by rw [← eu1]; exact hP
      replace hD : va_D A (fl [(w_X11 ad (b1) cs u1)]) := by rw [← eu1]; exact hD
      exact W.iret hx hb hr (fun t ht hW => ⟨⟨_, (), rfl, e9, by rw [ht]; exact hP, va_K.moved hW.alike hK, hD⟩, hS.F ht⟩) hS.2.2 dX11_take_17
set_option maxHeartbeats 8000000 in
set_option maxRecDepth 100000 in
theorem k_X11_put (l : Launch) (dC : Nat → ClassId) (dI : Nat → Nat → Nat) (cs : Nat → ClassId) (ad : Nat → Nat) (b1 : Nat) (sz : Nat) (S1 : T2) (p1 : Int32) (p2 : Int32) (r : Int32) (u1 : T2) (hR : fX11_put S1 p1 p2 = some (r, u1)) : Met l yX11_put wsX11_put ({ frames := 4, cells := 0, slots := 0, locals := 88 } : Room) (va_Pc [.ref (ad b1), .int p1, .int p2] (pW dC dI (tyL cs) (fl [(w_X11 ad (b1) cs S1)]) sz)) (QI dC dI (tyL cs) (va_A (fl [(w_X11 ad (b1) cs S1)]) sz) (fl [(w_X11 ad (b1) cs u1)]) r) 0 0 (va_A (fl [(w_X11 ad (b1) cs S1)]) sz) := by
  refine mt_of (own := RX11) (cc := cX11_put) (maxL := 3) (ret := (some .int)) (Qc := fun A => QI dC dI (tyL cs) A (fl [(w_X11 ad (b1) cs u1)]) r) rfl (by decide) rfl (Nat.le_of_ble_eq_true rfl) (fun p e s m below meth c A ls hsz hx hb hr hts hown hlocks hml hA hK hP hD hS hl => ?_)
  subst hsz
  have hl : lv_has ls 3 [(0, .ref (ad b1)), (1, .int p1), (2, .int p2)] := hl
  refine lv_aload_n hx hb dX11_put_0 rfl (lv_at hl 0 rfl) ?_
  refine lv_iload_n hx hb dX11_put_1 rfl (lv_at hl 1 rfl) ?_
  replace hR := bd_e hR
  obtain ⟨q2, gq2, hR⟩ := hR
  refine cl_Vi (As := [.int p1]) (rest := []) (L := [(w_X11 ad (b1) cs S1)]) (L' := [(w_X11 ad (b1) cs S1)]) (Wc := [(w_X11 ad (b1) cs S1)]) (Wc' := [(w_X11 ad (b1) cs S1)]) (is := [0]) (js := []) ⟨hx, hb, hml, hown, hts⟩ (k_X11_isVan l dC dI cs ad (b1) s.heap.size S1 p1 q2 gq2) (cwV 1 hts gX11_put_X11_isVan rfl rfl rfl cd_X11_isVan ⟨Nat.le_of_ble_eq_true rfl, Nat.le_of_ble_eq_true rfl⟩) hK hP hD hS hA ⟨rfl, rfl, rfl, rfl, rfl, rfl⟩ (jn_nd (is := [0]) hD rfl rfl) 0 9 rfl rfl rfl rfl rfl hl.1 (Nat.le_of_ble_eq_true rfl) dX11_put_2 (fun H2 locs2 hP' hD' hS' => ?_)
  replace hS := hS'
  replace hP : va_P (dC, dI) vwCl (fl [(w_X11 ad (b1) cs S1)]) H2 := hP'
  replace hD : va_D A (fl [(w_X11 ad (b1) cs S1)]) := hD'
  clear hP' hD' hS'
  refine lv_if_eq (tgt := 16) hx hb dX11_put_5 (by decide) (fun c5 => ?_) (fun c5 => ?_)
  · replace hR := it_t hR c5
    refine lv_iconst (v := (-1)) hx hb dX11_put_16 ic_m1 ?_
    replace hR := Option.some.inj hR
    obtain ⟨e9, hR⟩ := Prod.mk.inj hR
    have eu1 := hR
    replace hP : va_P (dC, dI) vwCl (fl [(w_X11 ad (b1) cs u1)]) H2 := by rw [← eu1]; exact hP
    replace hD : va_D A (fl [(w_X11 ad (b1) cs u1)]) := by rw [← eu1]; exact hD
    exact W.iret hx hb hr (fun t ht hW => ⟨⟨_, (), rfl, e9, by rw [ht]; exact hP, va_K.moved hW.alike hK, hD⟩, hS.F ht⟩) hS.2.2 dX11_put_17
  · replace hR := it_f hR c5
    refine lv_aload_n hx hb dX11_put_8 rfl (lv_at hl 0 rfl) ?_
    refine lv_iload_n hx hb dX11_put_9 rfl (lv_at hl 2 rfl) ?_
    replace hR := bd_e hR
    obtain ⟨q10, gq10, hR⟩ := hR
    refine cl_Vi (As := [.int p2]) (rest := []) (L := [(w_X11 ad (b1) cs S1)]) (L' := [(w_X11 ad (b1) cs S1)]) (Wc := [(w_X11 ad (b1) cs S1)]) (Wc' := [(w_X11 ad (b1) cs S1)]) (is := [0]) (js := []) ⟨hx, hb, hml, hown, hts⟩ (k_X11_isBicycle l dC dI cs ad (b1) H2.size S1 p2 q10 gq10) (cwV 1 hts gX11_put_X11_isBicycle rfl rfl rfl cd_X11_isBicycle ⟨Nat.le_of_ble_eq_true rfl, Nat.le_of_ble_eq_true rfl⟩) hK hP hD hS hA ⟨rfl, rfl, rfl, rfl, rfl, rfl⟩ (jn_nd (is := [0]) hD rfl rfl) 0 9 rfl rfl rfl rfl rfl hl.1 (Nat.le_of_ble_eq_true rfl) dX11_put_10 (fun H10 locs10 hP' hD' hS' => ?_)
    replace hS := hS'
    replace hP : va_P (dC, dI) vwCl (fl [(w_X11 ad (b1) cs S1)]) H10 := hP'
    replace hD : va_D A (fl [(w_X11 ad (b1) cs S1)]) := hD'
    clear hP' hD' hS'
    refine lv_if_ne (tgt := 18) hx hb dX11_put_13 (by decide) (fun c13 => ?_) (fun c13 => ?_)
    · replace hR := it_f hR c13
      refine lv_aload_n hx hb dX11_put_18 rfl (lv_at hl 0 rfl) ?_
      refine lv_iload_n hx hb dX11_put_19 rfl (lv_at hl 1 rfl) ?_
      replace hR := bd_e hR
      obtain ⟨q20, gq20, hR⟩ := hR
      refine cl_Vi (As := [.int p1]) (rest := []) (L := [(w_X11 ad (b1) cs S1)]) (L' := [(w_X11 ad (b1) cs S1)]) (Wc := [(w_X11 ad (b1) cs S1)]) (Wc' := [(w_X11 ad (b1) cs S1)]) (is := [0]) (js := []) ⟨hx, hb, hml, hown, hts⟩ (k_X11_isUnderWay l dC dI cs ad (b1) H10.size S1 p1 q20 gq20) (cwV 1 hts gX11_put_X11_isUnderWay rfl rfl rfl cd_X11_isUnderWay ⟨Nat.le_of_ble_eq_true rfl, Nat.le_of_ble_eq_true rfl⟩) hK hP hD hS hA ⟨rfl, rfl, rfl, rfl, rfl, rfl⟩ (jn_nd (is := [0]) hD rfl rfl) 0 9 rfl rfl rfl rfl rfl hl.1 (Nat.le_of_ble_eq_true rfl) dX11_put_20 (fun H20 locs20 hP' hD' hS' => ?_)
      replace hS := hS'
      replace hP : va_P (dC, dI) vwCl (fl [(w_X11 ad (b1) cs S1)]) H20 := hP'
      replace hD : va_D A (fl [(w_X11 ad (b1) cs S1)]) := hD'
      clear hP' hD' hS'
      refine lv_if_ne (tgt := 49) hx hb dX11_put_23 (by decide) (fun c23 => ?_) (fun c23 => ?_)
      · replace hR := it_f hR c23
        refine lv_bipush (v := (-2)) hx hb dX11_put_49 bp_m2 ?_
        replace hR := Option.some.inj hR
        obtain ⟨e9, hR⟩ := Prod.mk.inj hR
        have eu1 := hR
        replace hP : va_P (dC, dI) vwCl (fl [(w_X11 ad (b1) cs u1)]) H20 := by rw [← eu1]; exact hP
        replace hD : va_D A (fl [(w_X11 ad (b1) cs u1)]) := by rw [← eu1]; exact hD
        exact W.iret hx hb hr (fun t ht hW => ⟨⟨_, (), rfl, e9, by rw [ht]; exact hP, va_K.moved hW.alike hK, hD⟩, hS.F ht⟩) hS.2.2 dX11_put_51
      · replace hR := it_t hR c23
        refine lv_aload_n hx hb dX11_put_26 rfl (lv_at hl 0 rfl) ?_
        refine lv_iload_n hx hb dX11_put_27 rfl (lv_at hl 2 rfl) ?_
        refine lv_iconst (v := 2) hx hb dX11_put_28 ic_2 ?_
        refine lv_iload_n hx hb dX11_put_29 rfl (lv_at hl 1 rfl) ?_
        replace hR := bd_e hR
        obtain ⟨q30, gq30, hR⟩ := hR
        refine cl_Vi (As := [.int p2, .int (2 : Int32), .int p1]) (rest := []) (L := [(w_X11 ad (b1) cs S1)]) (L' := [(w_X11 ad (b1) cs S1)]) (Wc := [(w_X11 ad (b1) cs S1)]) (Wc' := [(w_X11 ad (b1) cs S1)]) (is := [0]) (js := []) ⟨hx, hb, hml, hown, hts⟩ (k_X11_isAt l dC dI cs ad (b1) H20.size S1 p2 (2 : Int32) p1 q30 gq30) (cwV 3 hts gX11_put_X11_isAt rfl rfl rfl cd_X11_isAt ⟨Nat.le_of_ble_eq_true rfl, Nat.le_of_ble_eq_true rfl⟩) hK hP hD hS hA ⟨rfl, rfl, rfl, rfl, rfl, rfl⟩ (jn_nd (is := [0]) hD rfl rfl) 0 9 rfl rfl rfl rfl rfl hl.1 (Nat.le_of_ble_eq_true rfl) dX11_put_30 (fun H30 locs30 hP' hD' hS' => ?_)
        replace hS := hS'
        replace hP : va_P (dC, dI) vwCl (fl [(w_X11 ad (b1) cs S1)]) H30 := hP'
        replace hD : va_D A (fl [(w_X11 ad (b1) cs S1)]) := hD'
        clear hP' hD' hS'
        refine lv_if_eq (tgt := 49) hx hb dX11_put_33 (by decide) (fun c33 => ?_) (fun c33 => ?_)
        · replace hR := it_t hR c33
          refine lv_bipush (v := (-2)) hx hb dX11_put_49 bp_m2 ?_
          replace hR := Option.some.inj hR
          obtain ⟨e9, hR⟩ := Prod.mk.inj hR
          have eu1 := hR
          replace hP : va_P (dC, dI) vwCl (fl [(w_X11 ad (b1) cs u1)]) H30 := by rw [← eu1]; exact hP
          replace hD : va_D A (fl [(w_X11 ad (b1) cs u1)]) := by rw [← eu1]; exact hD
          exact W.iret hx hb hr (fun t ht hW => ⟨⟨_, (), rfl, e9, by rw [ht]; exact hP, va_K.moved hW.alike hK, hD⟩, hS.F ht⟩) hS.2.2 dX11_put_51
        · replace hR := it_f hR c33
          refine lv_aload_n hx hb dX11_put_36 rfl (lv_at hl 0 rfl) ?_
          refine lv_aload_n hx hb dX11_put_37 rfl (lv_at hl 0 rfl) ?_
          refine lv_iload_n hx hb dX11_put_38 rfl (lv_at hl 1 rfl) ?_
          refine lv_iconst (v := 0) hx hb dX11_put_39 ic_0 ?_
          replace hR := bd_e hR
          obtain ⟨q40, gq40, hR⟩ := hR
          refine cl_Vi (As := [.int p1, .int (0 : Int32)]) (rest := [.ref (ad b1)]) (L := [(w_X11 ad (b1) cs S1)]) (L' := [(w_X11 ad (b1) cs S1)]) (Wc := [(w_X11 ad (b1) cs S1)]) (Wc' := [(w_X11 ad (b1) cs S1)]) (is := [0]) (js := []) ⟨hx, hb, hml, hown, hts⟩ (k_X11_ofVan l dC dI cs ad (b1) H30.size S1 p1 (0 : Int32) q40 gq40) (cwV 2 hts gX11_put_X11_ofVan rfl rfl rfl cd_X11_ofVan ⟨Nat.le_of_ble_eq_true rfl, Nat.le_of_ble_eq_true rfl⟩) hK hP hD hS hA ⟨rfl, rfl, rfl, rfl, rfl, rfl⟩ (jn_nd (is := [0]) hD rfl rfl) 0 9 rfl rfl rfl rfl rfl hl.1 (Nat.le_of_ble_eq_true rfl) dX11_put_40 (fun H40 locs40 hP' hD' hS' => ?_)
          replace hS := hS'
          replace hP : va_P (dC, dI) vwCl (fl [(w_X11 ad (b1) cs S1)]) H40 := hP'
          replace hD : va_D A (fl [(w_X11 ad (b1) cs S1)]) := hD'
          clear hP' hD' hS'
          replace hR := bd_e hR
          obtain ⟨q43, gq43, hR⟩ := hR
          refine cl_Vi (As := [.int q40]) (rest := []) (L := [(w_X11 ad (b1) cs S1)]) (L' := [(w_X11 ad (b1) cs S1)]) (Wc := [(w_X11 ad (b1) cs S1)]) (Wc' := [(w_X11 ad (b1) cs S1)]) (is := [0]) (js := []) ⟨hx, hb, hml, hown, hts⟩ (k_X11_isFree l dC dI cs ad (b1) H40.size S1 q40 q43 gq43) (cwV 1 hts gX11_put_X11_isFree rfl rfl rfl cd_X11_isFree ⟨Nat.le_of_ble_eq_true rfl, Nat.le_of_ble_eq_true rfl⟩) hK hP hD hS hA ⟨rfl, rfl, rfl, rfl, rfl, rfl⟩ (jn_nd (is := [0]) hD rfl rfl) 0 9 rfl rfl rfl rfl rfl hl.1 (Nat.le_of_ble_eq_true rfl) dX11_put_43 (fun H43 locs43 hP' hD' hS' => ?_)
          replace hS := hS'
          replace hP : va_P (dC, dI) vwCl (fl [(w_X11 ad (b1) cs S1)]) H43 := hP'
          replace hD : va_D A (fl [(w_X11 ad (b1) cs S1)]) := hD'
          clear hP' hD' hS'
          refine lv_if_ne (tgt := 52) hx hb dX11_put_46 (by decide) (fun c46 => ?_) (fun c46 => ?_)
          · replace hR := it_f hR c46
            refine lv_aload_n hx hb dX11_put_52 rfl (lv_at hl 0 rfl) ?_
            replace hR := bd_e hR
            obtain ⟨q53, gq53, hR⟩ := hR
            refine cl_Vv (As := []) (rest := []) (L := [(w_X11 ad (b1) cs S1)]) (L' := [(w_X11 ad (b1) cs q53)]) (Wc := [(w_X11 ad (b1) cs S1)]) (Wc' := [(w_X11 ad (b1) cs q53)]) (is := [0]) (js := []) ⟨hx, hb, hml, hown, hts⟩ (k_X11_changes l dC dI cs ad (b1) H43.size S1 q53 gq53) (cwV 0 hts gX11_put_X11_changes rfl rfl rfl cd_X11_changes ⟨Nat.le_of_ble_eq_true rfl, Nat.le_of_ble_eq_true rfl⟩) hK hP hD hS hA ⟨rfl, rfl, rfl, rfl, rfl, rfl⟩ (jn_nd (is := [0]) hD rfl rfl) 0 9 rfl rfl rfl rfl rfl hl.1 (Nat.le_of_ble_eq_true rfl) dX11_put_53 (fun H53 locs53 hP' hD' hS' => ?_)
            replace hS := hS'
            replace hP : va_P (dC, dI) vwCl (fl [(w_X11 ad (b1) cs q53)]) H53 := hP'
            replace hD : va_D A (fl [(w_X11 ad (b1) cs q53)]) := hD'
            clear hP' hD' hS'
            refine lv_aload_n hx hb dX11_put_56 rfl (lv_at hl 0 rfl) ?_
            refine lv_iload_n hx hb dX11_put_57 rfl (lv_at hl 2 rfl) ?_
            refine lv_iconst (v := 0) hx hb dX11_put_58 ic_0 ?_
            refine lv_aload_n hx hb dX11_put_59 rfl (lv_at hl 0 rfl) ?_
            refine lv_iload_n hx hb dX11_put_60 rfl (lv_at hl 1 rfl) ?_
            refine lv_iconst (v := 0) hx hb dX11_put_61 ic_0 ?_
            replace hR := bd_e hR
            obtain ⟨q62, gq62, hR⟩ := hR
            refine cl_Vi (As := [.int p1, .int (0 : Int32)]) (rest := [.int (0 : Int32), .int p2, .ref (ad b1)]) (L := [(w_X11 ad (b1) cs q53)]) (L' := [(w_X11 ad (b1) cs q53)]) (Wc := [(w_X11 ad (b1) cs q53)]) (Wc' := [(w_X11 ad (b1) cs q53)]) (is := [0]) (js := []) ⟨hx, hb, hml, hown, hts⟩ (k_X11_ofVan l dC dI cs ad (b1) H53.size q53 p1 (0 : Int32) q62 gq62) (cwV 2 hts gX11_put_X11_ofVan rfl rfl rfl cd_X11_ofVan ⟨Nat.le_of_ble_eq_true rfl, Nat.le_of_ble_eq_true rfl⟩) hK hP hD hS hA ⟨rfl, rfl, rfl, rfl, rfl, rfl⟩ (jn_nd (is := [0]) hD rfl rfl) 0 9 rfl rfl rfl rfl rfl hl.1 (Nat.le_of_ble_eq_true rfl) dX11_put_62 (fun H62 locs62 hP' hD' hS' => ?_)
            replace hS := hS'
            replace hP : va_P (dC, dI) vwCl (fl [(w_X11 ad (b1) cs q53)]) H62 := hP'
            replace hD : va_D A (fl [(w_X11 ad (b1) cs q53)]) := hD'
            clear hP' hD' hS'
            replace hR := bd_e hR
            obtain ⟨q65, gq65, hR⟩ := hR
            refine cl_Vv (As := [.int p2, .int (0 : Int32), .int q62]) (rest := []) (L := [(w_X11 ad (b1) cs q53)]) (L' := [(w_X11 ad (b1) cs q65)]) (Wc := [(w_X11 ad (b1) cs q53)]) (Wc' := [(w_X11 ad (b1) cs q65)]) (is := [0]) (js := []) ⟨hx, hb, hml, hown, hts⟩ (k_X11_puts l dC dI cs ad (b1) H62.size q53 p2 (0 : Int32) q62 q65 gq65) (cwV 3 hts gX11_put_X11_puts rfl rfl rfl cd_X11_puts ⟨Nat.le_of_ble_eq_true rfl, Nat.le_of_ble_eq_true rfl⟩) hK hP hD hS hA ⟨rfl, rfl, rfl, rfl, rfl, rfl⟩ (jn_nd (is := [0]) hD rfl rfl) 0 9 rfl rfl rfl rfl rfl hl.1 (Nat.le_of_ble_eq_true rfl) dX11_put_65 (fun H65 locs65 hP' hD' hS' => ?_)
            replace hS := hS'
            replace hP : va_P (dC, dI) vwCl (fl [(w_X11 ad (b1) cs q65)]) H65 := hP'
            replace hD : va_D A (fl [(w_X11 ad (b1) cs q65)]) := hD'
            clear hP' hD' hS'
            refine lv_aload_n hx hb dX11_put_68 rfl (lv_at hl 0 rfl) ?_
            refine lv_iload_n hx hb dX11_put_69 rfl (lv_at hl 1 rfl) ?_
            replace hR := bd_e hR
            obtain ⟨q70, gq70, hR⟩ := hR
            refine cl_Vi (As := [.int p1]) (rest := []) (L := [(w_X11 ad (b1) cs q65)]) (L' := [(w_X11 ad (b1) cs q65)]) (Wc := [(w_X11 ad (b1) cs q65)]) (Wc' := [(w_X11 ad (b1) cs q65)]) (is := [0]) (js := []) ⟨hx, hb, hml, hown, hts⟩ (k_X11_carried l dC dI cs ad (b1) H65.size q65 p1 q70 gq70) (cwV 1 hts gX11_put_X11_carried rfl rfl rfl cd_X11_carried ⟨Nat.le_of_ble_eq_true rfl, Nat.le_of_ble_eq_true rfl⟩) hK hP hD hS hA ⟨rfl, rfl, rfl, rfl, rfl, rfl⟩ (jn_nd (is := [0]) hD rfl rfl) 0 9 rfl rfl rfl rfl rfl hl.1 (Nat.le_of_ble_eq_true rfl) dX11_put_70 (fun H70 locs70 hP' hD' hS' => ?_)
            replace hS := hS'
            replace hP : va_P (dC, dI) vwCl (fl [(w_X11 ad (b1) cs q65)]) H70 := hP'
            replace hD : va_D A (fl [(w_X11 ad (b1) cs q65)]) := hD'
            clear hP' hD' hS'
            replace hR := Option.some.inj hR
            obtain ⟨e9, hR⟩ := Prod.mk.inj hR
            have eu1 := hR
            replace hP : va_P (dC, dI) vwCl (fl [(w_X11 ad (b1) cs u1)]) H70 := by rw [← eu1]; exact hP
            replace hD : va_D A (fl [(w_X11 ad (b1) cs u1)]) := by rw [← eu1]; exact hD
            exact W.iret hx hb hr (fun t ht hW => ⟨⟨_, (), rfl, e9, by rw [ht]; exact hP, va_K.moved hW.alike hK, hD⟩, hS.F ht⟩) hS.2.2 dX11_put_73
          · replace hR := it_t hR c46
            refine lv_bipush (v := (-2)) hx hb dX11_put_49 bp_m2 ?_
            replace hR := Option.some.inj hR
            obtain ⟨e9, hR⟩ := Prod.mk.inj hR
            have eu1 := hR
            replace hP : va_P (dC, dI) vwCl (fl [(w_X11 ad (b1) cs u1)]) H43 := by rw [← eu1]; exact hP
            replace hD : va_D A (fl [(w_X11 ad (b1) cs u1)]) := by rw [← eu1]; exact hD
            exact W.iret hx hb hr (fun t ht hW => ⟨⟨_, (), rfl, e9, by rw [ht]; exact hP, va_K.moved hW.alike hK, hD⟩, hS.F ht⟩) hS.2.2 dX11_put_51
    · replace hR := it_t hR c13
      refine lv_iconst (v := (-1)) hx hb dX11_put_16 ic_m1 ?_
      replace hR := Option.some.inj hR
      obtain ⟨e9, hR⟩ := Prod.mk.inj hR
      have eu1 := hR
      replace hP : va_P (dC, dI) vwCl (fl [(w_X11 ad (b1) cs u1)]) H10 := by rw [← eu1]; exact hP
      replace hD : va_D A (fl [(w_X11 ad (b1) cs u1)]) := by rw [← eu1]; exact hD
      exact W.iret hx hb hr (fun t ht hW => ⟨⟨_, (), rfl, e9, by rw [ht]; exact hP, va_K.moved hW.alike hK, hD⟩, hS.F ht⟩) hS.2.2 dX11_put_17
set_option maxHeartbeats 8000000 in
set_option maxRecDepth 100000 in
theorem k_X11_way (l : Launch) (dC : Nat → ClassId) (dI : Nat → Nat → Nat) (cs : Nat → ClassId) (ad : Nat → Nat) (b1 : Nat) (sz : Nat) (S1 : T2) (p1 : Int32) (p2 : Int32) (r : Int32) (hR : fX11_way S1 p1 p2 = some r) : Met l yX11_way wsX11_way ({ frames := 1, cells := 0, slots := 0, locals := 22 } : Room) (va_Pc [.ref (ad b1), .int p1, .int p2] (pW dC dI (tyL cs) (fl [(w_X11 ad (b1) cs S1)]) sz)) (QI dC dI (tyL cs) (va_A (fl [(w_X11 ad (b1) cs S1)]) sz) (fl [(w_X11 ad (b1) cs S1)]) r) 0 0 (va_A (fl [(w_X11 ad (b1) cs S1)]) sz) := by
  refine mt_of (own := RX11) (cc := cX11_way) (maxL := 4) (ret := (some .int)) (Qc := fun A => QI dC dI (tyL cs) A (fl [(w_X11 ad (b1) cs S1)]) r) rfl (by decide) rfl (Nat.le_of_ble_eq_true rfl) (fun p e s m below meth c A ls hsz hx hb hr hts hown hlocks hml hA hK hP hD hS hl => ?_)
  subst hsz
  have hl : lv_has ls 4 [(0, .ref (ad b1)), (1, .int p1), (2, .int p2)] := hl
  refine lv_aload_n hx hb dX11_way_0 rfl (lv_at hl 0 rfl) ?_
  refine lv_iload_n hx hb dX11_way_1 rfl (lv_at hl 1 rfl) ?_
  refine lv_iconst (v := 0) hx hb dX11_way_2 ic_0 ?_
  replace hR := bd_e hR
  obtain ⟨q3, gq3, hR⟩ := hR
  refine cl_Vi (As := [.int p1, .int (0 : Int32)]) (rest := []) (L := [(w_X11 ad (b1) cs S1)]) (L' := [(w_X11 ad (b1) cs S1)]) (Wc := [(w_X11 ad (b1) cs S1)]) (Wc' := [(w_X11 ad (b1) cs S1)]) (is := [0]) (js := []) ⟨hx, hb, hml, hown, hts⟩ (k_X11_ofStation l dC dI cs ad (b1) s.heap.size S1 p1 (0 : Int32) q3 gq3) (cwV 2 hts gX11_way_X11_ofStation rfl rfl rfl cd_X11_ofStation ⟨Nat.le_of_ble_eq_true rfl, Nat.le_of_ble_eq_true rfl⟩) hK hP hD hS hA ⟨rfl, rfl, rfl, rfl, rfl, rfl⟩ (jn_nd (is := [0]) hD rfl rfl) 0 9 rfl rfl rfl rfl rfl hl.1 (Nat.le_of_ble_eq_true rfl) dX11_way_3 (fun H3 locs3 hP' hD' hS' => ?_)
  replace hS := hS'
  replace hP : va_P (dC, dI) vwCl (fl [(w_X11 ad (b1) cs S1)]) H3 := hP'
  replace hD : va_D A (fl [(w_X11 ad (b1) cs S1)]) := hD'
  clear hP' hD' hS'
  refine lv_aload_n hx hb dX11_way_6 rfl (lv_at hl 0 rfl) ?_
  refine lv_iload_n hx hb dX11_way_7 rfl (lv_at hl 2 rfl) ?_
  refine lv_iconst (v := 0) hx hb dX11_way_8 ic_0 ?_
  replace hR := bd_e hR
  obtain ⟨q9, gq9, hR⟩ := hR
  refine cl_Vi (As := [.int p2, .int (0 : Int32)]) (rest := [.int q3]) (L := [(w_X11 ad (b1) cs S1)]) (L' := [(w_X11 ad (b1) cs S1)]) (Wc := [(w_X11 ad (b1) cs S1)]) (Wc' := [(w_X11 ad (b1) cs S1)]) (is := [0]) (js := []) ⟨hx, hb, hml, hown, hts⟩ (k_X11_ofStation l dC dI cs ad (b1) H3.size S1 p2 (0 : Int32) q9 gq9) (cwV 2 hts gX11_way_X11_ofStation rfl rfl rfl cd_X11_ofStation ⟨Nat.le_of_ble_eq_true rfl, Nat.le_of_ble_eq_true rfl⟩) hK hP hD hS hA ⟨rfl, rfl, rfl, rfl, rfl, rfl⟩ (jn_nd (is := [0]) hD rfl rfl) 0 9 rfl rfl rfl rfl rfl hl.1 (Nat.le_of_ble_eq_true rfl) dX11_way_9 (fun H9 locs9 hP' hD' hS' => ?_)
  replace hS := hS'
  replace hP : va_P (dC, dI) vwCl (fl [(w_X11 ad (b1) cs S1)]) H9 := hP'
  replace hD : va_D A (fl [(w_X11 ad (b1) cs S1)]) := hD'
  clear hP' hD' hS'
  refine lv_isub hx hb dX11_way_12 ?_
  refine lv_istore_n (lv' := [(3, .int (q3 - q9)), (0, .ref (ad b1)), (1, .int p1), (2, .int p2)]) hx hb dX11_way_13 rfl hl (Nat.le_of_ble_eq_true rfl) rfl (fun ls hl => ?_)
  refine lv_iload_n hx hb dX11_way_14 rfl (lv_at hl 0 rfl) ?_
  refine lv_if_ge (tgt := 23) hx hb dX11_way_15 (by decide) (fun c15 => ?_) (fun c15 => ?_)
  · replace hR := it_t hR c15
    refine lv_iload_n hx hb dX11_way_23 rfl (lv_at hl 0 rfl) ?_
    replace hR := Option.some.inj hR
    have e9 := hR
    exact W.iret hx hb hr (fun t ht hW => ⟨⟨_, (), rfl, e9, by rw [ht]; exact hP, va_K.moved hW.alike hK, hD⟩, hS.F ht⟩) hS.2.2 dX11_way_24
  · replace hR := it_f hR c15
    refine lv_iload_n hx hb dX11_way_18 rfl (lv_at hl 0 rfl) ?_
    refine lv_ineg hx hb dX11_way_19 ?_
    refine lv_goto (tgt := 24) hx hb dX11_way_20 (by decide) ?_
    replace hR := Option.some.inj hR
    have e9 := hR
    exact W.iret hx hb hr (fun t ht hW => ⟨⟨_, (), rfl, e9, by rw [ht]; exact hP, va_K.moved hW.alike hK, hD⟩, hS.F ht⟩) hS.2.2 dX11_way_24
set_option maxHeartbeats 8000000 in
set_option maxRecDepth 100000 in
theorem k_X11_go (l : Launch) (dC : Nat → ClassId) (dI : Nat → Nat → Nat) (cs : Nat → ClassId) (ad : Nat → Nat) (b1 : Nat) (sz : Nat) (S1 : T2) (p1 : Int32) (p2 : Int32) (r : Int32) (u1 : T2) (hR : fX11_go S1 p1 p2 = some (r, u1)) : Met l yX11_go wsX11_go ({ frames := 2, cells := 0, slots := 0, locals := 45 } : Room) (va_Pc [.ref (ad b1), .int p1, .int p2] (pW dC dI (tyL cs) (fl [(w_X11 ad (b1) cs S1)]) sz)) (QI dC dI (tyL cs) (va_A (fl [(w_X11 ad (b1) cs S1)]) sz) (fl [(w_X11 ad (b1) cs u1)]) r) 0 0 (va_A (fl [(w_X11 ad (b1) cs S1)]) sz) := by
  refine mt_of (own := RX11) (cc := cX11_go) (maxL := 3) (ret := (some .int)) (Qc := fun A => QI dC dI (tyL cs) A (fl [(w_X11 ad (b1) cs u1)]) r) rfl (by decide) rfl (Nat.le_of_ble_eq_true rfl) (fun p e s m below meth c A ls hsz hx hb hr hts hown hlocks hml hA hK hP hD hS hl => ?_)
  subst hsz
  have hl : lv_has ls 3 [(0, .ref (ad b1)), (1, .int p1), (2, .int p2)] := hl
  have hF7 := hts (.fieldLink RX11 7 "DockedBikesModel" "s" "[I") (List.mem_of_getElem? (i := 1) rfl)
  have hinX11 : ∀ w ∈ wsX110, w ∈ wsX11_go := by decide +kernel
  refine lv_aload_n hx hb dX11_go_0 rfl (lv_at hl 0 rfl) ?_
  refine lv_iload_n hx hb dX11_go_1 rfl (lv_at hl 1 rfl) ?_
  replace hR := bd_e hR
  obtain ⟨q2, gq2, hR⟩ := hR
  refine cl_Vi (As := [.int p1]) (rest := []) (L := [(w_X11 ad (b1) cs S1)]) (L' := [(w_X11 ad (b1) cs S1)]) (Wc := [(w_X11 ad (b1) cs S1)]) (Wc' := [(w_X11 ad (b1) cs S1)]) (is := [0]) (js := []) ⟨hx, hb, hml, hown, hts⟩ (k_X11_isVan l dC dI cs ad (b1) s.heap.size S1 p1 q2 gq2) (cwV 1 hts gX11_go_X11_isVan rfl rfl rfl cd_X11_isVan ⟨Nat.le_of_ble_eq_true rfl, Nat.le_of_ble_eq_true rfl⟩) hK hP hD hS hA ⟨rfl, rfl, rfl, rfl, rfl, rfl⟩ (jn_nd (is := [0]) hD rfl rfl) 0 9 rfl rfl rfl rfl rfl hl.1 (Nat.le_of_ble_eq_true rfl) dX11_go_2 (fun H2 locs2 hP' hD' hS' => ?_)
  replace hS := hS'
  replace hP : va_P (dC, dI) vwCl (fl [(w_X11 ad (b1) cs S1)]) H2 := hP'
  replace hD : va_D A (fl [(w_X11 ad (b1) cs S1)]) := hD'
  clear hP' hD' hS'
  refine lv_if_eq (tgt := 16) hx hb dX11_go_5 (by decide) (fun c5 => ?_) (fun c5 => ?_)
  · replace hR := it_t hR c5
    refine lv_iconst (v := (-1)) hx hb dX11_go_16 ic_m1 ?_
    replace hR := Option.some.inj hR
    obtain ⟨e9, hR⟩ := Prod.mk.inj hR
    have eu1 := hR
    replace hP : va_P (dC, dI) vwCl (fl [(w_X11 ad (b1) cs u1)]) H2 := by rw [← eu1]; exact hP
    replace hD : va_D A (fl [(w_X11 ad (b1) cs u1)]) := by rw [← eu1]; exact hD
    exact W.iret hx hb hr (fun t ht hW => ⟨⟨_, (), rfl, e9, by rw [ht]; exact hP, va_K.moved hW.alike hK, hD⟩, hS.F ht⟩) hS.2.2 dX11_go_17
  · replace hR := it_f hR c5
    refine lv_aload_n hx hb dX11_go_8 rfl (lv_at hl 0 rfl) ?_
    refine lv_iload_n hx hb dX11_go_9 rfl (lv_at hl 2 rfl) ?_
    replace hR := bd_e hR
    obtain ⟨q10, gq10, hR⟩ := hR
    refine cl_Vi (As := [.int p2]) (rest := []) (L := [(w_X11 ad (b1) cs S1)]) (L' := [(w_X11 ad (b1) cs S1)]) (Wc := [(w_X11 ad (b1) cs S1)]) (Wc' := [(w_X11 ad (b1) cs S1)]) (is := [0]) (js := []) ⟨hx, hb, hml, hown, hts⟩ (k_X11_isStation l dC dI cs ad (b1) H2.size S1 p2 q10 gq10) (cwV 1 hts gX11_go_X11_isStation rfl rfl rfl cd_X11_isStation ⟨Nat.le_of_ble_eq_true rfl, Nat.le_of_ble_eq_true rfl⟩) hK hP hD hS hA ⟨rfl, rfl, rfl, rfl, rfl, rfl⟩ (jn_nd (is := [0]) hD rfl rfl) 0 9 rfl rfl rfl rfl rfl hl.1 (Nat.le_of_ble_eq_true rfl) dX11_go_10 (fun H10 locs10 hP' hD' hS' => ?_)
    replace hS := hS'
    replace hP : va_P (dC, dI) vwCl (fl [(w_X11 ad (b1) cs S1)]) H10 := hP'
    replace hD : va_D A (fl [(w_X11 ad (b1) cs S1)]) := hD'
    clear hP' hD' hS'
    refine lv_if_ne (tgt := 18) hx hb dX11_go_13 (by decide) (fun c13 => ?_) (fun c13 => ?_)
    · replace hR := it_f hR c13
      refine lv_aload_n hx hb dX11_go_18 rfl (lv_at hl 0 rfl) ?_
      refine lv_iload_n hx hb dX11_go_19 rfl (lv_at hl 1 rfl) ?_
      replace hR := bd_e hR
      obtain ⟨q20, gq20, hR⟩ := hR
      refine cl_Vi (As := [.int p1]) (rest := []) (L := [(w_X11 ad (b1) cs S1)]) (L' := [(w_X11 ad (b1) cs S1)]) (Wc := [(w_X11 ad (b1) cs S1)]) (Wc' := [(w_X11 ad (b1) cs S1)]) (is := [0]) (js := []) ⟨hx, hb, hml, hown, hts⟩ (k_X11_isUnderWay l dC dI cs ad (b1) H10.size S1 p1 q20 gq20) (cwV 1 hts gX11_go_X11_isUnderWay rfl rfl rfl cd_X11_isUnderWay ⟨Nat.le_of_ble_eq_true rfl, Nat.le_of_ble_eq_true rfl⟩) hK hP hD hS hA ⟨rfl, rfl, rfl, rfl, rfl, rfl⟩ (jn_nd (is := [0]) hD rfl rfl) 0 9 rfl rfl rfl rfl rfl hl.1 (Nat.le_of_ble_eq_true rfl) dX11_go_20 (fun H20 locs20 hP' hD' hS' => ?_)
      replace hS := hS'
      replace hP : va_P (dC, dI) vwCl (fl [(w_X11 ad (b1) cs S1)]) H20 := hP'
      replace hD : va_D A (fl [(w_X11 ad (b1) cs S1)]) := hD'
      clear hP' hD' hS'
      refine lv_if_ne (tgt := 36) hx hb dX11_go_23 (by decide) (fun c23 => ?_) (fun c23 => ?_)
      · replace hR := it_f hR c23
        refine lv_bipush (v := (-2)) hx hb dX11_go_36 bp_m2 ?_
        replace hR := Option.some.inj hR
        obtain ⟨e9, hR⟩ := Prod.mk.inj hR
        have eu1 := hR
        replace hP : va_P (dC, dI) vwCl (fl [(w_X11 ad (b1) cs u1)]) H20 := by rw [← eu1]; exact hP
        replace hD : va_D A (fl [(w_X11 ad (b1) cs u1)]) := by rw [← eu1]; exact hD
        exact W.iret hx hb hr (fun t ht hW => ⟨⟨_, (), rfl, e9, by rw [ht]; exact hP, va_K.moved hW.alike hK, hD⟩, hS.F ht⟩) hS.2.2 dX11_go_38
      · replace hR := it_t hR c23
        refine lv_aload_n hx hb dX11_go_26 rfl (lv_at hl 0 rfl) ?_
        refine lv_iload_n hx hb dX11_go_27 rfl (lv_at hl 1 rfl) ?_
        refine lv_iconst (v := 0) hx hb dX11_go_28 ic_0 ?_
        replace hR := bd_e hR
        obtain ⟨q29, gq29, hR⟩ := hR
        refine cl_Vi (As := [.int p1, .int (0 : Int32)]) (rest := []) (L := [(w_X11 ad (b1) cs S1)]) (L' := [(w_X11 ad (b1) cs S1)]) (Wc := [(w_X11 ad (b1) cs S1)]) (Wc' := [(w_X11 ad (b1) cs S1)]) (is := [0]) (js := []) ⟨hx, hb, hml, hown, hts⟩ (k_X11_ofVan l dC dI cs ad (b1) H20.size S1 p1 (0 : Int32) q29 gq29) (cwV 2 hts gX11_go_X11_ofVan rfl rfl rfl cd_X11_ofVan ⟨Nat.le_of_ble_eq_true rfl, Nat.le_of_ble_eq_true rfl⟩) hK hP hD hS hA ⟨rfl, rfl, rfl, rfl, rfl, rfl⟩ (jn_nd (is := [0]) hD rfl rfl) 0 9 rfl rfl rfl rfl rfl hl.1 (Nat.le_of_ble_eq_true rfl) dX11_go_29 (fun H29 locs29 hP' hD' hS' => ?_)
        replace hS := hS'
        replace hP : va_P (dC, dI) vwCl (fl [(w_X11 ad (b1) cs S1)]) H29 := hP'
        replace hD : va_D A (fl [(w_X11 ad (b1) cs S1)]) := hD'
        clear hP' hD' hS'
        refine lv_iload_n hx hb dX11_go_32 rfl (lv_at hl 2 rfl) ?_
        refine lv_icmp_ne (tgt := 39) hx hb dX11_go_33 (by decide) (fun c33 => ?_) (fun c33 => ?_)
        · replace hR := it_f hR c33
          refine lv_aload_n hx hb dX11_go_39 rfl (lv_at hl 0 rfl) ?_
          replace hR := bd_e hR
          obtain ⟨q40, gq40, hR⟩ := hR
          refine cl_Vv (As := []) (rest := []) (L := [(w_X11 ad (b1) cs S1)]) (L' := [(w_X11 ad (b1) cs q40)]) (Wc := [(w_X11 ad (b1) cs S1)]) (Wc' := [(w_X11 ad (b1) cs q40)]) (is := [0]) (js := []) ⟨hx, hb, hml, hown, hts⟩ (k_X11_changes l dC dI cs ad (b1) H29.size S1 q40 gq40) (cwV 0 hts gX11_go_X11_changes rfl rfl rfl cd_X11_changes ⟨Nat.le_of_ble_eq_true rfl, Nat.le_of_ble_eq_true rfl⟩) hK hP hD hS hA ⟨rfl, rfl, rfl, rfl, rfl, rfl⟩ (jn_nd (is := [0]) hD rfl rfl) 0 9 rfl rfl rfl rfl rfl hl.1 (Nat.le_of_ble_eq_true rfl) dX11_go_40 (fun H40 locs40 hP' hD' hS' => ?_)
          replace hS := hS'
          replace hP : va_P (dC, dI) vwCl (fl [(w_X11 ad (b1) cs q40)]) H40 := hP'
          replace hD : va_D A (fl [(w_X11 ad (b1) cs q40)]) := hD'
          clear hP' hD' hS'
          refine lv_aload_n hx hb dX11_go_43 rfl (lv_at hl 0 rfl) ?_
          refine va_get (D := (dC, dI)) (ci := 9) (v := .ref (ad (b1 + 1))) (C := RX11) (T := TX11) (N := 14) hx hb hts hinX11 hown hK hP 0 rfl rfl 0 (by decide) hF7 (fun _ h9 => h9) rfl dX11_go_44 ?_
          refine lv_sipush (v := 200) hx hb dX11_go_47 sp_200 ?_
          refine lv_iconst (v := 3) hx hb dX11_go_50 ic_3 ?_
          refine lv_iload_n hx hb dX11_go_51 rfl (lv_at hl 1 rfl) ?_
          refine lv_imul hx hb dX11_go_52 ?_
          refine lv_iadd hx hb dX11_go_53 ?_
          refine lv_iconst (v := 2) hx hb dX11_go_54 ic_2 ?_
          refine lv_iadd hx hb dX11_go_55 ?_
          refine lv_aload_n hx hb dX11_go_56 rfl (lv_at hl 0 rfl) ?_
          refine va_get (D := (dC, dI)) (ci := 9) (v := .ref (ad (b1 + 1))) (C := RX11) (T := TX11) (N := 14) hx hb hts hinX11 hown hK hP 0 rfl rfl 0 (by decide) hF7 (fun _ h9 => h9) rfl dX11_go_57 ?_
          refine lv_iconst (v := 4) hx hb dX11_go_60 ic_4 ?_
          refine va_iald hx hb hK hP 1 0 rfl rfl vi_4_206 dX11_go_61 ?_
          refine lv_aload_n hx hb dX11_go_62 rfl (lv_at hl 0 rfl) ?_
          refine lv_aload_n hx hb dX11_go_63 rfl (lv_at hl 0 rfl) ?_
          refine lv_iload_n hx hb dX11_go_64 rfl (lv_at hl 1 rfl) ?_
          refine lv_iconst (v := 0) hx hb dX11_go_65 ic_0 ?_
          replace hR := bd_e hR
          obtain ⟨q66, gq66, hR⟩ := hR
          refine cl_Vi (As := [.int p1, .int (0 : Int32)]) (rest := [.ref (ad b1), .int (q40 0 (4 : Int32).toNatClampNeg), .int (((200 : Int32) + ((3 : Int32) * p1)) + 2), .ref (ad (b1 + 1))]) (L := [(w_X11 ad (b1) cs q40)]) (L' := [(w_X11 ad (b1) cs q40)]) (Wc := [(w_X11 ad (b1) cs q40)]) (Wc' := [(w_X11 ad (b1) cs q40)]) (is := [0]) (js := []) ⟨hx, hb, hml, hown, hts⟩ (k_X11_ofVan l dC dI cs ad (b1) H40.size q40 p1 (0 : Int32) q66 gq66) (cwV 2 hts gX11_go_X11_ofVan rfl rfl rfl cd_X11_ofVan ⟨Nat.le_of_ble_eq_true rfl, Nat.le_of_ble_eq_true rfl⟩) hK hP hD hS hA ⟨rfl, rfl, rfl, rfl, rfl, rfl⟩ (jn_nd (is := [0]) hD rfl rfl) 0 9 rfl rfl rfl rfl rfl hl.1 (Nat.le_of_ble_eq_true rfl) dX11_go_66 (fun H66 locs66 hP' hD' hS' => ?_)
          replace hS := hS'
          replace hP : va_P (dC, dI) vwCl (fl [(w_X11 ad (b1) cs q40)]) H66 := hP'
          replace hD : va_D A (fl [(w_X11 ad (b1) cs q40)]) := hD'
          clear hP' hD' hS'
          refine lv_iload_n hx hb dX11_go_69 rfl (lv_at hl 2 rfl) ?_
          replace hR := bd_e hR
          obtain ⟨q70, gq70, hR⟩ := hR
          refine cl_Vi (As := [.int q66, .int p2]) (rest := [.int (q40 0 (4 : Int32).toNatClampNeg), .int (((200 : Int32) + ((3 : Int32) * p1)) + 2), .ref (ad (b1 + 1))]) (L := [(w_X11 ad (b1) cs q40)]) (L' := [(w_X11 ad (b1) cs q40)]) (Wc := [(w_X11 ad (b1) cs q40)]) (Wc' := [(w_X11 ad (b1) cs q40)]) (is := [0]) (js := []) ⟨hx, hb, hml, hown, hts⟩ (k_X11_way l dC dI cs ad (b1) H66.size q40 q66 p2 q70 gq70) (cwV 2 hts gX11_go_X11_way rfl rfl rfl cd_X11_way ⟨Nat.le_of_ble_eq_true rfl, Nat.le_of_ble_eq_true rfl⟩) hK hP hD hS hA ⟨rfl, rfl, rfl, rfl, rfl, rfl⟩ (jn_nd (is := [0]) hD rfl rfl) 0 9 rfl rfl rfl rfl rfl hl.1 (Nat.le_of_ble_eq_true rfl) dX11_go_70 (fun H70 locs70 hP' hD' hS' => ?_)
          replace hS := hS'
          replace hP : va_P (dC, dI) vwCl (fl [(w_X11 ad (b1) cs q40)]) H70 := hP'
          replace hD : va_D A (fl [(w_X11 ad (b1) cs q40)]) := hD'
          clear hP' hD' hS'
          refine lv_iconst (v := 2) hx hb dX11_go_73 ic_2 ?_
          refine lv_idiv hx hb dX11_go_74 (by decide) ?_
          refine lv_iadd hx hb dX11_go_75 ?_
          refine lv_iconst (v := 1) hx hb dX11_go_76 ic_1 ?_
          refine lv_iadd hx hb dX11_go_77 ?_
          replace hR := gi_e hR
          obtain ⟨i78, hR⟩ := hR
          refine va_iast hx hb hK hP hD hS 1 0 rfl rfl i78 dX11_go_78 (fun H78 locs78 hP' hD' hS' => ?_)
          replace hS := hS'
          have hP' : va_P (dC, dI) vwCl (fl [(w_X11 ad (b1) cs (sU q40 0 (sU (q40 0) (((200 : Int32) + ((3 : Int32) * p1)) + 2).toNatClampNeg (((q40 0 (4 : Int32).toNatClampNeg) + (q70 / 2)) + 1))))]) H78 := hP'
          have hD' : va_D A (fl [(w_X11 ad (b1) cs (sU q40 0 (sU (q40 0) (((200 : Int32) + ((3 : Int32) * p1)) + 2).toNatClampNeg (((q40 0 (4 : Int32).toNatClampNeg) + (q70 / 2)) + 1))))]) := hD'
          replace hR := bn_e hR
          obtain ⟨S1_78, eS1_78, hR⟩ := hR
          replace hP : va_P (dC, dI) vwCl (fl [(w_X11 ad (b1) cs S1_78)]) H78 := by rw [eS1_78]; exact hP'
          replace hD : va_D A (fl [(w_X11 ad (b1) cs S1_78)]) := by rw [eS1_78]; exact hD'
          clear hP' hD' hS'
          refine lv_aload_n hx hb dX11_go_79 rfl (lv_at hl 0 rfl) ?_
          refine va_get (D := (dC, dI)) (ci := 9) (v := .ref (ad (b1 + 1))) (C := RX11) (T := TX11) (N := 14) hx hb hts hinX11 hown hK hP 0 rfl rfl 0 (by decide) hF7 (fun _ h9 => h9) rfl dX11_go_80 ?_
          refine lv_sipush (v := 200) hx hb dX11_go_83 sp_200 ?_
          refine lv_iconst (v := 3) hx hb dX11_go_86 ic_3 ?_
          refine lv_iload_n hx hb dX11_go_87 rfl (lv_at hl 1 rfl) ?_
          refine lv_imul hx hb dX11_go_88 ?_
          refine lv_iadd hx hb dX11_go_89 ?_
          refine lv_iconst (v := 0) hx hb dX11_go_90 ic_0 ?_
          refine lv_iadd hx hb dX11_go_91 ?_
          refine lv_iload_n hx hb dX11_go_92 rfl (lv_at hl 2 rfl) ?_
          replace hR := gi_e hR
          obtain ⟨i93, hR⟩ := hR
          refine va_iast hx hb hK hP hD hS 1 0 rfl rfl i93 dX11_go_93 (fun H93 locs93 hP' hD' hS' => ?_)
          replace hS := hS'
          have hP' : va_P (dC, dI) vwCl (fl [(w_X11 ad (b1) cs (sU S1_78 0 (sU (S1_78 0) (((200 : Int32) + ((3 : Int32) * p1)) + 0).toNatClampNeg p2)))]) H93 := hP'
          have hD' : va_D A (fl [(w_X11 ad (b1) cs (sU S1_78 0 (sU (S1_78 0) (((200 : Int32) + ((3 : Int32) * p1)) + 0).toNatClampNeg p2)))]) := hD'
          replace hR := bn_e hR
          obtain ⟨S1_93, eS1_93, hR⟩ := hR
          replace hP : va_P (dC, dI) vwCl (fl [(w_X11 ad (b1) cs S1_93)]) H93 := by rw [eS1_93]; exact hP'
          replace hD : va_D A (fl [(w_X11 ad (b1) cs S1_93)]) := by rw [eS1_93]; exact hD'
          clear hP' hD' hS'
          refine lv_aload_n hx hb dX11_go_94 rfl (lv_at hl 0 rfl) ?_
          refine lv_iload_n hx hb dX11_go_95 rfl (lv_at hl 1 rfl) ?_
          refine lv_iconst (v := 2) hx hb dX11_go_96 ic_2 ?_
          replace hR := bd_e hR
          obtain ⟨q97, gq97, hR⟩ := hR
          refine cl_Vi (As := [.int p1, .int (2 : Int32)]) (rest := []) (L := [(w_X11 ad (b1) cs S1_93)]) (L' := [(w_X11 ad (b1) cs S1_93)]) (Wc := [(w_X11 ad (b1) cs S1_93)]) (Wc' := [(w_X11 ad (b1) cs S1_93)]) (is := [0]) (js := []) ⟨hx, hb, hml, hown, hts⟩ (k_X11_ofVan l dC dI cs ad (b1) H93.size S1_93 p1 (2 : Int32) q97 gq97) (cwV 2 hts gX11_go_X11_ofVan rfl rfl rfl cd_X11_ofVan ⟨Nat.le_of_ble_eq_true rfl, Nat.le_of_ble_eq_true rfl⟩) hK hP hD hS hA ⟨rfl, rfl, rfl, rfl, rfl, rfl⟩ (jn_nd (is := [0]) hD rfl rfl) 0 9 rfl rfl rfl rfl rfl hl.1 (Nat.le_of_ble_eq_true rfl) dX11_go_97 (fun H97 locs97 hP' hD' hS' => ?_)
          replace hS := hS'
          replace hP : va_P (dC, dI) vwCl (fl [(w_X11 ad (b1) cs S1_93)]) H97 := hP'
          replace hD : va_D A (fl [(w_X11 ad (b1) cs S1_93)]) := hD'
          clear hP' hD' hS'
          replace hR := Option.some.inj hR
          obtain ⟨e9, hR⟩ := Prod.mk.inj hR
          have eu1 := hR
          replace hP : va_P (dC, dI) vwCl (fl [(w_X11 ad (b1) cs u1)]) H97 := by rw [← eu1]; exact hP
          replace hD : va_D A (fl [(w_X11 ad (b1) cs u1)]) := by rw [← eu1]; exact hD
          exact W.iret hx hb hr (fun t ht hW => ⟨⟨_, (), rfl, e9, by rw [ht]; exact hP, va_K.moved hW.alike hK, hD⟩, hS.F ht⟩) hS.2.2 dX11_go_100
        · replace hR := it_t hR c33
          refine lv_bipush (v := (-2)) hx hb dX11_go_36 bp_m2 ?_
          replace hR := Option.some.inj hR
          obtain ⟨e9, hR⟩ := Prod.mk.inj hR
          have eu1 := hR
          replace hP : va_P (dC, dI) vwCl (fl [(w_X11 ad (b1) cs u1)]) H29 := by rw [← eu1]; exact hP
          replace hD : va_D A (fl [(w_X11 ad (b1) cs u1)]) := by rw [← eu1]; exact hD
          exact W.iret hx hb hr (fun t ht hW => ⟨⟨_, (), rfl, e9, by rw [ht]; exact hP, va_K.moved hW.alike hK, hD⟩, hS.F ht⟩) hS.2.2 dX11_go_38
    · replace hR := it_t hR c13
      refine lv_iconst (v := (-1)) hx hb dX11_go_16 ic_m1 ?_
      replace hR := Option.some.inj hR
      obtain ⟨e9, hR⟩ := Prod.mk.inj hR
      have eu1 := hR
      replace hP : va_P (dC, dI) vwCl (fl [(w_X11 ad (b1) cs u1)]) H10 := by rw [← eu1]; exact hP
      replace hD : va_D A (fl [(w_X11 ad (b1) cs u1)]) := by rw [← eu1]; exact hD
      exact W.iret hx hb hr (fun t ht hW => ⟨⟨_, (), rfl, e9, by rw [ht]; exact hP, va_K.moved hW.alike hK, hD⟩, hS.F ht⟩) hS.2.2 dX11_go_17
