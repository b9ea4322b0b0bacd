/-! VERB: the verb at hand -/
abbrev QE (dC : Nat → ClassId) (dI : Nat → Nat → Nat) (tys : List (ClassId × FieldType)) (A : Nat → Prop) (ws : va_W) (en : Nat → Nat) (r : Option Nat) : Array Value → State → Outcome → State → Prop := va_Qe en (fun (r' : Option Nat) (_ : Unit) => r' = r) (fun _ => qW dC dI tys A ws) A
theorem cd_X7_isAhead : yX7_isAhead.cls = RX7 ∧ yX7_isAhead.cls ≠ "java/lang/invoke/MethodHandle" ∧ yX7_isAhead.cls ≠ "java/lang/invoke/VarHandle" ∧ (parseMethodDescriptor yX7_isAhead.desc).map (fun d => d.parameters.length) = some 1 := by decide +kernel
set_option maxHeartbeats 8000000 in
set_option maxRecDepth 100000 in
theorem k_X7_readVerb (l : Launch) (dC : Nat → ClassId) (dI : Nat → Nat → Nat) (cs : Nat → ClassId) (ad : Nat → Nat) (aK aV en : Nat → Nat) (tF tS b1 sz : Nat) (S1 : T2) (r : Option Nat) (u1 : T2) (hR : fX7_readVerb S1 = some (r, u1)) : Met l yX7_readVerb wsX7_readVerb ({ frames := 5, cells := 0, slots := 0, locals := 107 } : Room) (va_Pc [.ref (ad b1)] (pE dC dI (tyL cs) aK aV en tF tS (fl [(w_X7 ad (b1) cs en S1)]) sz)) (QE dC dI (tyL cs) (va_A (fl [(w_X7 ad (b1) cs en S1)]) sz) (fl [(w_X7 ad (b1) cs en u1)]) en r) 0 0 (va_A (fl [(w_X7 ad (b1) cs en S1)]) sz) := by
  refine mt_E (own := RX7) (cc := cX7_readVerb) (maxL := 5) (ret := (some (.object "DockedBikes$Verb"))) (Qc := fun A => QE dC dI (tyL cs) A (fl [(w_X7 ad (b1) cs en u1)]) en r) rfl (by decide) rfl (Nat.le_of_ble_eq_true rfl) (fun p e s m below meth c A ls hsz hx hb hr hts hown hlocks hml hA hK hP hD hS hl hE => ?_)
  subst hsz
  have hl : lv_has ls 5 [(0, .ref (ad b1))] := hl
  have hF25 := hts (.fieldLink RX7 25 "DockedBikes$Text" "verbs" "[LDockedBikes$Verb;") (List.mem_of_getElem? (i := 1) rfl)
  have hF73 := hts (.fieldLink RX7 73 "DockedBikes$Verb" "word" "Ljava/lang/String;") (List.mem_of_getElem? (i := 2) rfl)
  have hF46 := hts (.fieldLink RX7 46 "DockedBikes$Text" "reading" "I") (List.mem_of_getElem? (i := 3) rfl)
  have hinX7 : ∀ w ∈ wsX70, w ∈ wsX7_readVerb := by decide +kernel
  have hB : ∀ (n j : Nat) (H : Heap) (locs : List Loc) (ls : Array Slot), j ≤ 10 → fX7_readVerb_l S1 n (nI j) = some (r, u1) → va_P (dC, dI) vwCl (fl [(w_X7 ad (b1) cs en S1)]) H → va_D A (fl [(w_X7 ad (b1) cs en S1)]) → va_S A s.heap H locs → lv_has ls 5 [(0, .ref (ad b1)), (1, .ref (ad (b1 + 2))), (2, .int 10), (3, .int (nI j))] → W p l e (headSpec wsX7_readVerb ({ frames := 5, cells := 0, slots := 0, locals := 107 } : Room)).room s m ([.ref (ad b1)] : List Value).toArray below meth c H locs 0 0 (MQ below (QE dC dI (tyL cs) A (fl [(w_X7 ad (b1) cs en u1)]) en r) ([.ref (ad b1)] : List Value).toArray s 0 0 A) (F0 m 10 ls []) := by
    intro n
    induction n with
    | zero => intro j H locs ls hj hR; exact nn_e hR
    | succ n ih =>
      intro j H locs ls hj hR hP hD hS hl
      rw [fX7_readVerb_l] at hR
      refine lv_iload_n hx hb dX7_readVerb_10 rfl (lv_at hl 3 rfl) ?_
      refine lv_iload_n hx hb dX7_readVerb_11 rfl (lv_at hl 2 rfl) ?_
      refine lv_icmp_ge (tgt := 63) hx hb dX7_readVerb_12 (by decide) (fun c12 => ?_) (fun c12 => ?_)
      · replace hR := Option.some.inj (it_t hR c12)
        obtain ⟨e1, e2⟩ := Prod.mk.inj hR
        subst e2
        subst e1
        refine lv_null hx hb dX7_readVerb_63 ?_
        exact W.aret hx hb hr (Or.inl ⟨_, rfl⟩) (Or.inl rfl) (fun t ht hW => ⟨⟨none, (), rfl, rfl, by rw [ht]; exact hP, va_K.moved hW.alike hK, hD⟩, hS.F ht⟩) hS.2.2 dX7_readVerb_64
      · replace hR := it_f hR c12
        have hj2 : j < 10 := Nat.lt_of_not_le (fun q => c12 (nI_le (a := 10) q (by omega)))
        rw [cl_nI (by omega)] at hR
        refine lv_aload_n hx hb dX7_readVerb_15 rfl (lv_at hl 1 rfl) ?_
        refine lv_iload_n hx hb dX7_readVerb_16 rfl (lv_at hl 3 rfl) ?_
        refine va_aldq hx hb hK hP 2 3 rfl rfl (vp_in_nI hj2 (by decide)) dX7_readVerb_17 ?_
        rw [cl_nI (by omega)]
        refine lv_astore (x := en j) (lv' := [(4, .ref (en j)), (0, .ref (ad b1)), (1, .ref (ad (b1 + 2))), (2, .int 10), (3, .int (nI j))]) hx hb dX7_readVerb_18 hl (Nat.le_of_ble_eq_true rfl) rfl (fun ls hl => ?_)
        refine lv_aload hx hb dX7_readVerb_20 (lv_at hl 0 rfl) ?_
        refine lv_ifnull hx hb dX7_readVerb_22 ?_
        refine lv_aload_n hx hb dX7_readVerb_25 rfl (lv_at hl 1 rfl) ?_
        refine lv_aload hx hb dX7_readVerb_26 (lv_at hl 0 rfl) ?_
        refine vk_getf hx hb (hE.2.2.2.2.1 j hj2) hS hown hF73 (fun _ h9 => h9) dX7_readVerb_28 ?_
        obtain ⟨q, gq, hR⟩ := bd_e hR
        refine cl_ViE (C := RX7) (As := [.ref (aK j)]) (rest := []) (L := [(w_X7 ad (b1) cs en S1)]) (L' := [(w_X7 ad (b1) cs en S1)]) (Wc := [(w_X7 ad (b1) cs en S1)]) (Wc' := [(w_X7 ad (b1) cs en S1)]) (is := [0]) (js := []) ⟨hx, hb, hml, hown, hts⟩ (k_X7_isAhead l dC dI cs ad aK aV en tF tS b1 j H.size hj2 S1 q gq) (cwV 1 hts gX7_readVerb_X7_isAhead rfl rfl rfl cd_X7_isAhead ⟨Nat.le_of_ble_eq_true rfl, Nat.le_of_ble_eq_true rfl⟩) hK hP hD hS hA hE ⟨rfl, rfl, rfl, rfl, rfl, rfl⟩ (jn_nd (L := [(w_X7 ad (b1) cs en S1)]) (is := [0]) hD rfl rfl) (va_recv hK hP (show vwCl[6]? = some _ from rfl) (show (fl [(w_X7 ad (b1) cs en S1)])[0]? = some (_, .inr (6, _)) from rfl)) rfl rfl hl.1 (Nat.le_of_ble_eq_true rfl) dX7_readVerb_31 (fun H1 locs1 hP1 hD1 hS1 => ?_)
        refine lv_if_eq (tgt := 57) hx hb dX7_readVerb_34 (by decide) (fun c34 => ?_) (fun c34 => ?_)
        · replace hR := it_t hR c34
          rw [nI_1] at hR
          refine lv_iinc (v := nI (j + 1)) (lv' := [(3, .int (nI (j + 1))), (4, .ref (en j)), (0, .ref (ad b1)), (1, .ref (ad (b1 + 2))), (2, .int 10)]) hx hb dX7_readVerb_57 hl (k := 4) rfl (nI_1 j) (Nat.le_of_ble_eq_true rfl) rfl (fun ls hl => ?_)
          refine lv_goto (tgt := 10) hx hb dX7_readVerb_60 (by decide) ?_
          exact ih (j + 1) H1 _ ls (by omega) hR hP1 hD1 hS1 (lv_sub hl [2, 3, 4, 0] rfl)
        · replace hR := Option.some.inj (it_f hR c34)
          obtain ⟨e1, e2⟩ := Prod.mk.inj hR
          refine lv_aload_n hx hb dX7_readVerb_37 rfl (lv_at hl 1 rfl) ?_
          refine lv_dup hx hb dX7_readVerb_38 rfl ?_
          refine va_get (D := (dC, dI)) (ci := 6) (v := .int (S1 2 5)) (C := RX7) (T := TX7) (N := 9) hx hb hts hinX7 hown hK hP1 0 rfl rfl 8 (by decide) hF46 (fun _ h9 => h9) rfl dX7_readVerb_39 ?_
          refine lv_aload hx hb dX7_readVerb_42 (lv_at hl 0 rfl) ?_
          refine vk_getf hx hb (hE.2.2.2.2.1 j hj2) hS1 hown hF73 (fun _ h9 => h9) dX7_readVerb_44 ?_
          refine cl_ViE (C := RJ0) (As := []) (rest := [.int (S1 2 5), .ref (ad b1)]) (L := [(w_X7 ad (b1) cs en S1)]) (L' := [(w_X7 ad (b1) cs en S1)]) (Wc := []) (Wc' := []) (is := []) (js := [0]) ⟨hx, hb, hml, hown, hts⟩ (k_J0_length l dC dI cs aK aV en tF tS j H1.size hj2) (cwV 0 hts gX7_readVerb_J0_length_8abf5 rfl rfl rfl cd_J0_length ⟨Nat.le_of_ble_eq_true rfl, Nat.le_of_ble_eq_true rfl⟩) hK hP1 hD1 hS1 hA hE ⟨rfl, rfl, rfl, rfl, rfl, rfl⟩ (jn_nd (L := [(w_X7 ad (b1) cs en S1)]) (is := []) hD1 rfl rfl) (vk_recv hE.1 hj2 hS1) rfl rfl hl.1 (Nat.le_of_ble_eq_true rfl) dX7_readVerb_47 (fun H2 locs2 hP2 hD2 hS2 => ?_)
          refine lv_iadd hx hb dX7_readVerb_50 ?_
          refine va_put (D := (dC, dI)) (ci := 6) (v := .int (S1 2 5 + nI (wl j))) (ty := .int) (C := RX7) (T := TX7) (N := 9) hx hb hts hinX7 tyX7 tyX7_ok nmX7 hown hK hP2 hD2 hS2 0 rfl rfl 8 (by decide) hF46 (fun _ h9 => h9) rfl (by decide +kernel) rfl rfl (Nat.le_of_ble_eq_true rfl) dX7_readVerb_51 (fun H3 locs3 hP3 hD3 hS3 => ?_)
          replace hP3 : va_P (dC, dI) vwCl (fl [(w_X7 ad (b1) cs en u1)]) H3 := by rw [← e2]; exact hP3
          replace hD3 : va_D A (fl [(w_X7 ad (b1) cs en u1)]) := by rw [← e2]; exact hD3
          refine lv_aload hx hb dX7_readVerb_54 (lv_at hl 0 rfl) ?_
          exact W.aret hx hb hr (Or.inl ⟨_, rfl⟩) (Or.inr ⟨_, rfl⟩) (fun t ht hW => ⟨⟨some j, (), rfl, e1, by rw [ht]; exact hP3, va_K.moved hW.alike hK, hD3⟩, hS3.F ht⟩) hS3.2.2 dX7_readVerb_56
  refine lv_aload_n hx hb dX7_readVerb_0 rfl (lv_at hl 0 rfl) ?_
  refine va_get (D := (dC, dI)) (ci := 6) (v := .ref (ad (b1 + 2))) (C := RX7) (T := TX7) (N := 9) hx hb hts hinX7 hown hK hP 0 rfl rfl 6 (by decide) hF25 (fun _ h9 => h9) rfl dX7_readVerb_1 ?_
  refine lv_astore_n (lv' := [(1, .ref (ad (b1 + 2))), (0, .ref (ad b1))]) hx hb dX7_readVerb_4 rfl hl (Nat.le_of_ble_eq_true rfl) rfl (fun ls hl => ?_)
  refine lv_aload_n hx hb dX7_readVerb_5 rfl (lv_at hl 0 rfl) ?_
  refine va_alen (v := 10) hx hb hK hP 2 3 rfl (ty := .object "DockedBikes$Verb") rfl rfl dX7_readVerb_6 ?_
  refine lv_istore_n (lv' := [(2, .int 10), (1, .ref (ad (b1 + 2))), (0, .ref (ad b1))]) hx hb dX7_readVerb_7 rfl hl (Nat.le_of_ble_eq_true rfl) rfl (fun ls hl => ?_)
  refine lv_iconst (v := 0) hx hb dX7_readVerb_8 ic_0 ?_
  refine lv_istore_n (lv' := [(3, .int (0 : Int32)), (2, .int 10), (1, .ref (ad (b1 + 2))), (0, .ref (ad b1))]) hx hb dX7_readVerb_9 rfl hl (Nat.le_of_ble_eq_true rfl) rfl (fun ls hl => ?_)
  exact hB fuel 0 s.heap _ ls (by omega) hR hP hD hS (lv_sub hl [3, 2, 1, 0] rfl)
