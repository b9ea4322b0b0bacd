/-! PLAY: fault, play -/
set_option maxHeartbeats 8000000 in
set_option maxRecDepth 100000 in
theorem k_X10_fault (l : Launch) (dC : Nat → ClassId) (dI : Nat → Nat → Nat) (cs : Nat → ClassId) (ad : Nat → Nat) (aK aV en : Nat → Nat) (tF tS sz : Nat) (S1 : T5) (p1 : Int32) (r : Int32) (u1 : T5) (hR : fX10_fault S1 p1 = some (r, u1)) : Met l yX10_fault wsX10_fault ({ frames := 8, cells := 0, slots := 0, locals := 177 } : Room) (va_Pc [.ref (ad 0), .int p1] (pE dC dI (tyL cs) aK aV en tF tS (fl [(w_X10 ad (0) cs en S1)]) sz)) (QI dC dI (tyL cs) (va_A (fl [(w_X10 ad (0) cs en S1)]) sz) (fl [(w_X10 ad (0) cs en u1)]) r) 0 0 (va_A (fl [(w_X10 ad (0) cs en S1)]) sz) := by
  refine mt_E (own := RX10) (cc := cX10_fault) (maxL := 2) (ret := (some .int)) (Qc := fun A => QI dC dI (tyL cs) A (fl [(w_X10 ad (0) cs en u1)]) r) rfl (by decide) rfl (Nat.le_of_ble_eq_true rfl) (fun p e s m below meth c A ls hsz hx hb hr hts hown hlocks hml hA hK hP hD hS hl hE => ?_)
  subst hsz
  have hl : lv_has ls 2 [(0, .ref (ad 0)), (1, .int p1)] := hl
  have hF39 := hts (.fieldLink RX10 39 "DockedBikes" "text" "LDockedBikes$Text;") (List.mem_of_getElem? (i := 1) rfl)
  have hinX10 : ∀ w ∈ wsX100, w ∈ wsX10_fault := by decide +kernel
  have hN : ∀ (ls : Array Slot), (-1 : Int32) = r → S1 = u1 → W p l e (headSpec wsX10_fault ({ frames := 8, cells := 0, slots := 0, locals := 177 } : Room)).room s m ([.ref (ad 0), .int p1] : List Value).toArray below meth c s.heap [] 0 0 (MQ below (QI dC dI (tyL cs) A (fl [(w_X10 ad (0) cs en u1)]) r) ([.ref (ad 0), .int p1] : List Value).toArray s 0 0 A) (F0 m 9 ls []) := by
    intro ls e1 e2
    subst e2
    refine lv_iconst (v := (-1)) hx hb dX10_fault_9 ic_m1 ?_
    exact W.iret hx hb hr (fun t ht hW => ⟨⟨_, (), rfl, e1, by rw [ht]; exact hP, va_K.moved hW.alike hK, hD⟩, hS.F ht⟩) hS.2.2 dX10_fault_10
  rw [fX10_fault] at hR
  refine lv_iload_n hx hb dX10_fault_0 rfl (lv_at hl 1 rfl) ?_
  refine lv_if_lt (tgt := 9) hx hb dX10_fault_1 (by decide) (fun c1 => ?_) (fun c1 => ?_)
  · obtain ⟨e1, e2⟩ := Prod.mk.inj (Option.some.inj (it_t hR c1))
    exact hN ls e1 e2
  replace hR := it_f hR c1
  refine lv_iload_n hx hb dX10_fault_4 rfl (lv_at hl 1 rfl) ?_
  refine lv_iconst (v := 2) hx hb dX10_fault_5 ic_2 ?_
  refine lv_icmp_le (tgt := 11) hx hb dX10_fault_6 (by decide) (fun c6 => ?_) (fun c6 => ?_)
  · replace hR := it_t hR c6
    obtain ⟨y, gy, hR⟩ := bd_e hR
    rw [fX10_tryDraft] at gy
    obtain ⟨x1, g1, gy⟩ := bd_e gy
    obtain ⟨q, gq, gy⟩ := bd_e gy
    have ey : (sU (sU x1 1 (sU (x1 1) 1 q.2)) 1 (sU ((sU x1 1 (sU (x1 1) 1 q.2)) 1) 3 (sU ((sU x1 1 (sU (x1 1) 1 q.2)) 1 3) 1 q.1))) = y := Option.some.inj gy
    refine lv_aload_n hx hb dX10_fault_11 rfl (lv_at hl 0 rfl) ?_
    refine va_get (D := (dC, dI)) (ci := 8) (v := .ref (ad (0 + 202))) (C := RX10) (T := TX10) (N := 7) hx hb hts hinX10 hown hK hP 0 rfl rfl 6 (by decide) hF39 (fun _ h9 => h9) rfl dX10_fault_12 ?_
    refine lv_aload_n hx hb dX10_fault_15 rfl (lv_at hl 0 rfl) ?_
    refine cl_Va (As := []) (rest := [.ref (ad (0 + 202))]) (L := [(w_X10 ad (0) cs en S1)]) (L' := [(w_X10 ad (0) cs en x1)]) (Wc := [(w_X10 ad (0) cs en S1)]) (Wc' := [(w_X10 ad (0) cs en x1)]) (is := [0]) (js := []) ⟨hx, hb, hml, hown, hts⟩ (k_X10_freshDraft l dC dI cs ad en s.heap.size S1 x1 g1) (cwV 0 hts gX10_fault_X10_freshDraft rfl rfl rfl cd_X10_freshDraft ⟨Nat.le_of_ble_eq_true rfl, Nat.le_of_ble_eq_true rfl⟩) hK hP hD hS hA ⟨rfl, rfl, rfl, rfl, rfl, rfl⟩ (jn_nd (is := [0]) hD rfl rfl) 0 8 rfl rfl rfl rfl rfl hl.1 (Nat.le_of_ble_eq_true rfl) dX10_fault_16 (fun H1 locsH1 hP' hD' hS' => ?_)
    replace hP : va_P (dC, dI) vwCl (fl [(w_X10 ad (0) cs en x1)]) H1 := hP'
    replace hD : va_D A (fl [(w_X10 ad (0) cs en x1)]) := hD'
    replace hS := hS'
    clear hP' hD' hS'
    replace hP : va_P (dC, dI) vwCl (fl [[((ad 0), .inr (8, [.ref (ad (0 + 1)), .ref (ad (0 + 29)), .ref (ad (0 + 57)), .int (x1 1 3 2 0 0), .ref (ad (0 + 85)), .ref (ad (0 + 199)), .ref (ad (0 + 202))]))], (w_X5 ad (0 + 1) cs (x1 1 0)), (w_X5 ad (0 + 29) cs (x1 1 1)), (w_X5 ad (0 + 57) cs (x1 1 2)), (w_X3 ad (0 + 85) cs (x1 0)), (w_X2 ad (0 + 199) cs (x1 1 3 0)), (w_X7 ad (0 + 202) cs en (x1 1 3 1))]) H1 := hP
    replace hD : va_D A (fl [[((ad 0), .inr (8, [.ref (ad (0 + 1)), .ref (ad (0 + 29)), .ref (ad (0 + 57)), .int (x1 1 3 2 0 0), .ref (ad (0 + 85)), .ref (ad (0 + 199)), .ref (ad (0 + 202))]))], (w_X5 ad (0 + 1) cs (x1 1 0)), (w_X5 ad (0 + 29) cs (x1 1 1)), (w_X5 ad (0 + 57) cs (x1 1 2)), (w_X3 ad (0 + 85) cs (x1 0)), (w_X2 ad (0 + 199) cs (x1 1 3 0)), (w_X7 ad (0 + 202) cs en (x1 1 3 1))]) := hD
    refine cl_VvE (C := RX7) (As := [.ref (ad (0 + 29))]) (rest := []) (L := [[((ad 0), .inr (8, [.ref (ad (0 + 1)), .ref (ad (0 + 29)), .ref (ad (0 + 57)), .int (x1 1 3 2 0 0), .ref (ad (0 + 85)), .ref (ad (0 + 199)), .ref (ad (0 + 202))]))], (w_X5 ad (0 + 1) cs (x1 1 0)), (w_X5 ad (0 + 29) cs (x1 1 1)), (w_X5 ad (0 + 57) cs (x1 1 2)), (w_X3 ad (0 + 85) cs (x1 0)), (w_X2 ad (0 + 199) cs (x1 1 3 0)), (w_X7 ad (0 + 202) cs en (x1 1 3 1))]) (L' := [[((ad 0), .inr (8, [.ref (ad (0 + 1)), .ref (ad (0 + 29)), .ref (ad (0 + 57)), .int ((sU (sU x1 1 (sU (x1 1) 1 q.2)) 1 (sU ((sU x1 1 (sU (x1 1) 1 q.2)) 1) 3 (sU ((sU x1 1 (sU (x1 1) 1 q.2)) 1 3) 1 q.1))) 1 3 2 0 0), .ref (ad (0 + 85)), .ref (ad (0 + 199)), .ref (ad (0 + 202))]))], (w_X5 ad (0 + 1) cs ((sU (sU x1 1 (sU (x1 1) 1 q.2)) 1 (sU ((sU x1 1 (sU (x1 1) 1 q.2)) 1) 3 (sU ((sU x1 1 (sU (x1 1) 1 q.2)) 1 3) 1 q.1))) 1 0)), (w_X5 ad (0 + 29) cs ((sU (sU x1 1 (sU (x1 1) 1 q.2)) 1 (sU ((sU x1 1 (sU (x1 1) 1 q.2)) 1) 3 (sU ((sU x1 1 (sU (x1 1) 1 q.2)) 1 3) 1 q.1))) 1 1)), (w_X5 ad (0 + 57) cs ((sU (sU x1 1 (sU (x1 1) 1 q.2)) 1 (sU ((sU x1 1 (sU (x1 1) 1 q.2)) 1) 3 (sU ((sU x1 1 (sU (x1 1) 1 q.2)) 1 3) 1 q.1))) 1 2)), (w_X3 ad (0 + 85) cs ((sU (sU x1 1 (sU (x1 1) 1 q.2)) 1 (sU ((sU x1 1 (sU (x1 1) 1 q.2)) 1) 3 (sU ((sU x1 1 (sU (x1 1) 1 q.2)) 1 3) 1 q.1))) 0)), (w_X2 ad (0 + 199) cs ((sU (sU x1 1 (sU (x1 1) 1 q.2)) 1 (sU ((sU x1 1 (sU (x1 1) 1 q.2)) 1) 3 (sU ((sU x1 1 (sU (x1 1) 1 q.2)) 1 3) 1 q.1))) 1 3 0)), (w_X7 ad (0 + 202) cs en ((sU (sU x1 1 (sU (x1 1) 1 q.2)) 1 (sU ((sU x1 1 (sU (x1 1) 1 q.2)) 1) 3 (sU ((sU x1 1 (sU (x1 1) 1 q.2)) 1 3) 1 q.1))) 1 3 1))]) (Wc := [(w_X7 ad (0 + 202) cs en (x1 1 3 1)), (w_X5 ad (0 + 29) cs (x1 1 1))]) (Wc' := [(w_X7 ad (0 + 202) cs en q.1), (w_X5 ad (0 + 29) cs q.2)]) (is := [6, 2]) (js := [0, 1, 3, 4, 5]) ⟨hx, hb, hml, hown, hts⟩ (k_X7_tryOn l dC dI cs ad aK aV en tF tS (0 + 202) (0 + 29) H1.size (x1 1 3 1) (x1 1 1) q.1 q.2 gq) (cwV 1 hts gX10_fault_X7_tryOn rfl rfl rfl cd_X7_tryOn ⟨Nat.le_of_ble_eq_true rfl, Nat.le_of_ble_eq_true rfl⟩) hK hP hD hS hA hE ⟨rfl, rfl, rfl, rfl, rfl, rfl⟩ (jn_nd (is := [6, 2]) hD rfl rfl) (va_recv hK hP (show vwCl[6]? = some _ from rfl) (show (fl [[((ad 0), .inr (8, [.ref (ad (0 + 1)), .ref (ad (0 + 29)), .ref (ad (0 + 57)), .int (x1 1 3 2 0 0), .ref (ad (0 + 85)), .ref (ad (0 + 199)), .ref (ad (0 + 202))]))], (w_X5 ad (0 + 1) cs (x1 1 0)), (w_X5 ad (0 + 29) cs (x1 1 1)), (w_X5 ad (0 + 57) cs (x1 1 2)), (w_X3 ad (0 + 85) cs (x1 0)), (w_X2 ad (0 + 199) cs (x1 1 3 0)), (w_X7 ad (0 + 202) cs en (x1 1 3 1))])[202]? = some (_, .inr (6, _)) from rfl)) rfl rfl hl.1 (Nat.le_of_ble_eq_true rfl) dX10_fault_19 (fun H2 locsH2 hP' hD' hS' => ?_)
    have hP' : va_P (dC, dI) vwCl (fl [(w_X10 ad (0) cs en (sU (sU x1 1 (sU (x1 1) 1 q.2)) 1 (sU ((sU x1 1 (sU (x1 1) 1 q.2)) 1) 3 (sU ((sU x1 1 (sU (x1 1) 1 q.2)) 1 3) 1 q.1))))]) H2 := hP'
    have hD' : va_D A (fl [(w_X10 ad (0) cs en (sU (sU x1 1 (sU (x1 1) 1 q.2)) 1 (sU ((sU x1 1 (sU (x1 1) 1 q.2)) 1) 3 (sU ((sU x1 1 (sU (x1 1) 1 q.2)) 1 3) 1 q.1))))]) := hD'
    replace hP : va_P (dC, dI) vwCl (fl [(w_X10 ad (0) cs en y)]) H2 := by rw [← ey]; exact hP'
    replace hD : va_D A (fl [(w_X10 ad (0) cs en y)]) := by rw [← ey]; exact hD'
    replace hS := hS'
    clear hP' hD' hS'
    obtain ⟨q3, g3, hR⟩ := bd_e hR
    obtain ⟨e1, e2⟩ := Prod.mk.inj (Option.some.inj hR)
    subst e2
    refine lv_aload_n hx hb dX10_fault_22 rfl (lv_at hl 0 rfl) ?_
    refine va_get (D := (dC, dI)) (ci := 8) (v := .ref (ad (0 + 202))) (C := RX10) (T := TX10) (N := 7) hx hb hts hinX10 hown hK hP 0 rfl rfl 6 (by decide) hF39 (fun _ h9 => h9) rfl dX10_fault_23 ?_
    refine lv_iload_n hx hb dX10_fault_26 rfl (lv_at hl 1 rfl) ?_
    replace hP : va_P (dC, dI) vwCl (fl [[((ad 0), .inr (8, [.ref (ad (0 + 1)), .ref (ad (0 + 29)), .ref (ad (0 + 57)), .int (y 1 3 2 0 0), .ref (ad (0 + 85)), .ref (ad (0 + 199)), .ref (ad (0 + 202))]))], (w_X5 ad (0 + 1) cs (y 1 0)), (w_X5 ad (0 + 29) cs (y 1 1)), (w_X5 ad (0 + 57) cs (y 1 2)), (w_X3 ad (0 + 85) cs (y 0)), (w_X2 ad (0 + 199) cs (y 1 3 0)), (w_X7 ad (0 + 202) cs en (y 1 3 1))]) H2 := hP
    replace hD : va_D A (fl [[((ad 0), .inr (8, [.ref (ad (0 + 1)), .ref (ad (0 + 29)), .ref (ad (0 + 57)), .int (y 1 3 2 0 0), .ref (ad (0 + 85)), .ref (ad (0 + 199)), .ref (ad (0 + 202))]))], (w_X5 ad (0 + 1) cs (y 1 0)), (w_X5 ad (0 + 29) cs (y 1 1)), (w_X5 ad (0 + 57) cs (y 1 2)), (w_X3 ad (0 + 85) cs (y 0)), (w_X2 ad (0 + 199) cs (y 1 3 0)), (w_X7 ad (0 + 202) cs en (y 1 3 1))]) := hD
    refine cl_Vi (As := [.int p1]) (rest := []) (L := [[((ad 0), .inr (8, [.ref (ad (0 + 1)), .ref (ad (0 + 29)), .ref (ad (0 + 57)), .int (y 1 3 2 0 0), .ref (ad (0 + 85)), .ref (ad (0 + 199)), .ref (ad (0 + 202))]))], (w_X5 ad (0 + 1) cs (y 1 0)), (w_X5 ad (0 + 29) cs (y 1 1)), (w_X5 ad (0 + 57) cs (y 1 2)), (w_X3 ad (0 + 85) cs (y 0)), (w_X2 ad (0 + 199) cs (y 1 3 0)), (w_X7 ad (0 + 202) cs en (y 1 3 1))]) (L' := [[((ad 0), .inr (8, [.ref (ad (0 + 1)), .ref (ad (0 + 29)), .ref (ad (0 + 57)), .int (y 1 3 2 0 0), .ref (ad (0 + 85)), .ref (ad (0 + 199)), .ref (ad (0 + 202))]))], (w_X5 ad (0 + 1) cs (y 1 0)), (w_X5 ad (0 + 29) cs (y 1 1)), (w_X5 ad (0 + 57) cs (y 1 2)), (w_X3 ad (0 + 85) cs (y 0)), (w_X2 ad (0 + 199) cs (y 1 3 0)), (w_X7 ad (0 + 202) cs en (y 1 3 1))]) (Wc := [(w_X7 ad (0 + 202) cs en (y 1 3 1))]) (Wc' := [(w_X7 ad (0 + 202) cs en (y 1 3 1))]) (is := [6]) (js := [0, 1, 2, 3, 4, 5]) ⟨hx, hb, hml, hown, hts⟩ (k_X7_aboutFault l dC dI cs ad en (0 + 202) H2.size (y 1 3 1) p1 q3 g3) (cwV 1 hts gX10_fault_X7_aboutFault rfl rfl rfl cd_X7_aboutFault ⟨Nat.le_of_ble_eq_true rfl, Nat.le_of_ble_eq_true rfl⟩) hK hP hD hS hA ⟨rfl, rfl, rfl, rfl, rfl, rfl⟩ (jn_nd (is := [6]) hD rfl rfl) 202 6 rfl rfl rfl rfl rfl hl.1 (Nat.le_of_ble_eq_true rfl) dX10_fault_27 (fun H3 locsH3 hP' hD' hS' => ?_)
    replace hP : va_P (dC, dI) vwCl (fl [(w_X10 ad (0) cs en y)]) H3 := hP'
    replace hD : va_D A (fl [(w_X10 ad (0) cs en y)]) := hD'
    replace hS := hS'
    clear hP' hD' hS'
    exact W.iret hx hb hr (fun t ht hW => ⟨⟨_, (), rfl, e1, by rw [ht]; exact hP, va_K.moved hW.alike hK, hD⟩, hS.F ht⟩) hS.2.2 dX10_fault_30
  · obtain ⟨e1, e2⟩ := Prod.mk.inj (Option.some.inj (it_f hR c6))
    exact hN ls e1 e2
set_option maxHeartbeats 8000000 in
set_option maxRecDepth 100000 in
theorem k_X10_play (l : Launch) (dC : Nat → ClassId) (dI : Nat → Nat → Nat) (cs : Nat → ClassId) (ad : Nat → Nat) (aK aV en : Nat → Nat) (tF tS sz : Nat) (S1 : T5) (r : Int32) (u1 : T5) (hR : fX10_play S1 = some (r, u1)) : Met l yX10_play wsX10_play ({ frames := 8, cells := 0, slots := 0, locals := 177 } : Room) (va_Pc [.ref (ad 0)] (pE dC dI (tyL cs) aK aV en tF tS (fl [(w_X10 ad (0) cs en S1)]) sz)) (QI dC dI (tyL cs) (va_A (fl [(w_X10 ad (0) cs en S1)]) sz) (fl [(w_X10 ad (0) cs en u1)]) r) 0 0 (va_A (fl [(w_X10 ad (0) cs en S1)]) sz) := by
  refine mt_E (own := RX10) (cc := cX10_play) (maxL := 1) (ret := (some .int)) (Qc := fun A => QI dC dI (tyL cs) A (fl [(w_X10 ad (0) cs en u1)]) r) rfl (by decide) rfl (Nat.le_of_ble_eq_true rfl) (fun p e s m below meth c A ls hsz hx hb hr hts hown hlocks hml hA hK hP hD hS hl hE => ?_)
  subst hsz
  have hl : lv_has ls 1 [(0, .ref (ad 0))] := hl
  have hF39 := hts (.fieldLink RX10 39 "DockedBikes" "text" "LDockedBikes$Text;") (List.mem_of_getElem? (i := 1) rfl)
  have hF276 := hts (.fieldLink RX10 276 "DockedBikes$Text" "commands" "I") (List.mem_of_getElem? (i := 2) rfl)
  have hinX10 : ∀ w ∈ wsX100, w ∈ wsX10_play := by decide +kernel
  have hinX7 : ∀ w ∈ wsX70, w ∈ wsX10_play := by decide +kernel
  rw [fX10_play] at hR
  obtain ⟨y, gy, hR⟩ := bd_e hR
  rw [fX10_tryDraft] at gy
  obtain ⟨x1, g1, gy⟩ := bd_e gy
  obtain ⟨q, gq, gy⟩ := bd_e gy
  have ey : (sU (sU x1 1 (sU (x1 1) 1 q.2)) 1 (sU ((sU x1 1 (sU (x1 1) 1 q.2)) 1) 3 (sU ((sU x1 1 (sU (x1 1) 1 q.2)) 1 3) 1 q.1))) = y := Option.some.inj gy
  refine lv_aload_n hx hb dX10_play_0 rfl (lv_at hl 0 rfl) ?_
  refine va_get (D := (dC, dI)) (ci := 8) (v := .ref (ad (0 + 202))) (C := RX10) (T := TX10) (N := 7) hx hb hts hinX10 hown hK hP 0 rfl rfl 6 (by decide) hF39 (fun _ h9 => h9) rfl dX10_play_1 ?_
  refine lv_aload_n hx hb dX10_play_4 rfl (lv_at hl 0 rfl) ?_
  refine cl_Va (As := []) (rest := [.ref (ad (0 + 202))]) (L := [(w_X10 ad (0) cs en S1)]) (L' := [(w_X10 ad (0) cs en x1)]) (Wc := [(w_X10 ad (0) cs en S1)]) (Wc' := [(w_X10 ad (0) cs en x1)]) (is := [0]) (js := []) ⟨hx, hb, hml, hown, hts⟩ (k_X10_freshDraft l dC dI cs ad en s.heap.size S1 x1 g1) (cwV 0 hts gX10_play_X10_freshDraft rfl rfl rfl cd_X10_freshDraft ⟨Nat.le_of_ble_eq_true rfl, Nat.le_of_ble_eq_true rfl⟩) hK hP hD hS hA ⟨rfl, rfl, rfl, rfl, rfl, rfl⟩ (jn_nd (is := [0]) hD rfl rfl) 0 8 rfl rfl rfl rfl rfl hl.1 (Nat.le_of_ble_eq_true rfl) dX10_play_5 (fun H1 locsH1 hP' hD' hS' => ?_)
  replace hP : va_P (dC, dI) vwCl (fl [(w_X10 ad (0) cs en x1)]) H1 := hP'
  replace hD : va_D A (fl [(w_X10 ad (0) cs en x1)]) := hD'
  replace hS := hS'
  clear hP' hD' hS'
  replace hP : va_P (dC, dI) vwCl (fl [[((ad 0), .inr (8, [.ref (ad (0 + 1)), .ref (ad (0 + 29)), .ref (ad (0 + 57)), .int (x1 1 3 2 0 0), .ref (ad (0 + 85)), .ref (ad (0 + 199)), .ref (ad (0 + 202))]))], (w_X5 ad (0 + 1) cs (x1 1 0)), (w_X5 ad (0 + 29) cs (x1 1 1)), (w_X5 ad (0 + 57) cs (x1 1 2)), (w_X3 ad (0 + 85) cs (x1 0)), (w_X2 ad (0 + 199) cs (x1 1 3 0)), (w_X7 ad (0 + 202) cs en (x1 1 3 1))]) H1 := hP
  replace hD : va_D A (fl [[((ad 0), .inr (8, [.ref (ad (0 + 1)), .ref (ad (0 + 29)), .ref (ad (0 + 57)), .int (x1 1 3 2 0 0), .ref (ad (0 + 85)), .ref (ad (0 + 199)), .ref (ad (0 + 202))]))], (w_X5 ad (0 + 1) cs (x1 1 0)), (w_X5 ad (0 + 29) cs (x1 1 1)), (w_X5 ad (0 + 57) cs (x1 1 2)), (w_X3 ad (0 + 85) cs (x1 0)), (w_X2 ad (0 + 199) cs (x1 1 3 0)), (w_X7 ad (0 + 202) cs en (x1 1 3 1))]) := hD
  refine cl_VvE (C := RX7) (As := [.ref (ad (0 + 29))]) (rest := []) (L := [[((ad 0), .inr (8, [.ref (ad (0 + 1)), .ref (ad (0 + 29)), .ref (ad (0 + 57)), .int (x1 1 3 2 0 0), .ref (ad (0 + 85)), .ref (ad (0 + 199)), .ref (ad (0 + 202))]))], (w_X5 ad (0 + 1) cs (x1 1 0)), (w_X5 ad (0 + 29) cs (x1 1 1)), (w_X5 ad (0 + 57) cs (x1 1 2)), (w_X3 ad (0 + 85) cs (x1 0)), (w_X2 ad (0 + 199) cs (x1 1 3 0)), (w_X7 ad (0 + 202) cs en (x1 1 3 1))]) (L' := [[((ad 0), .inr (8, [.ref (ad (0 + 1)), .ref (ad (0 + 29)), .ref (ad (0 + 57)), .int ((sU (sU x1 1 (sU (x1 1) 1 q.2)) 1 (sU ((sU x1 1 (sU (x1 1) 1 q.2)) 1) 3 (sU ((sU x1 1 (sU (x1 1) 1 q.2)) 1 3) 1 q.1))) 1 3 2 0 0), .ref (ad (0 + 85)), .ref (ad (0 + 199)), .ref (ad (0 + 202))]))], (w_X5 ad (0 + 1) cs ((sU (sU x1 1 (sU (x1 1) 1 q.2)) 1 (sU ((sU x1 1 (sU (x1 1) 1 q.2)) 1) 3 (sU ((sU x1 1 (sU (x1 1) 1 q.2)) 1 3) 1 q.1))) 1 0)), (w_X5 ad (0 + 29) cs ((sU (sU x1 1 (sU (x1 1) 1 q.2)) 1 (sU ((sU x1 1 (sU (x1 1) 1 q.2)) 1) 3 (sU ((sU x1 1 (sU (x1 1) 1 q.2)) 1 3) 1 q.1))) 1 1)), (w_X5 ad (0 + 57) cs ((sU (sU x1 1 (sU (x1 1) 1 q.2)) 1 (sU ((sU x1 1 (sU (x1 1) 1 q.2)) 1) 3 (sU ((sU x1 1 (sU (x1 1) 1 q.2)) 1 3) 1 q.1))) 1 2)), (w_X3 ad (0 + 85) cs ((sU (sU x1 1 (sU (x1 1) 1 q.2)) 1 (sU ((sU x1 1 (sU (x1 1) 1 q.2)) 1) 3 (sU ((sU x1 1 (sU (x1 1) 1 q.2)) 1 3) 1 q.1))) 0)), (w_X2 ad (0 + 199) cs ((sU (sU x1 1 (sU (x1 1) 1 q.2)) 1 (sU ((sU x1 1 (sU (x1 1) 1 q.2)) 1) 3 (sU ((sU x1 1 (sU (x1 1) 1 q.2)) 1 3) 1 q.1))) 1 3 0)), (w_X7 ad (0 + 202) cs en ((sU (sU x1 1 (sU (x1 1) 1 q.2)) 1 (sU ((sU x1 1 (sU (x1 1) 1 q.2)) 1) 3 (sU ((sU x1 1 (sU (x1 1) 1 q.2)) 1 3) 1 q.1))) 1 3 1))]) (Wc := [(w_X7 ad (0 + 202) cs en (x1 1 3 1)), (w_X5 ad (0 + 29) cs (x1 1 1))]) (Wc' := [(w_X7 ad (0 + 202) cs en q.1), (w_X5 ad (0 + 29) cs q.2)]) (is := [6, 2]) (js := [0, 1, 3, 4, 5]) ⟨hx, hb, hml, hown, hts⟩ (k_X7_tryOn l dC dI cs ad aK aV en tF tS (0 + 202) (0 + 29) H1.size (x1 1 3 1) (x1 1 1) q.1 q.2 gq) (cwV 1 hts gX10_play_X7_tryOn rfl rfl rfl cd_X7_tryOn ⟨Nat.le_of_ble_eq_true rfl, Nat.le_of_ble_eq_true rfl⟩) hK hP hD hS hA hE ⟨rfl, rfl, rfl, rfl, rfl, rfl⟩ (jn_nd (is := [6, 2]) hD rfl rfl) (va_recv hK hP (show vwCl[6]? = some _ from rfl) (show (fl [[((ad 0), .inr (8, [.ref (ad (0 + 1)), .ref (ad (0 + 29)), .ref (ad (0 + 57)), .int (x1 1 3 2 0 0), .ref (ad (0 + 85)), .ref (ad (0 + 199)), .ref (ad (0 + 202))]))], (w_X5 ad (0 + 1) cs (x1 1 0)), (w_X5 ad (0 + 29) cs (x1 1 1)), (w_X5 ad (0 + 57) cs (x1 1 2)), (w_X3 ad (0 + 85) cs (x1 0)), (w_X2 ad (0 + 199) cs (x1 1 3 0)), (w_X7 ad (0 + 202) cs en (x1 1 3 1))])[202]? = some (_, .inr (6, _)) from rfl)) rfl rfl hl.1 (Nat.le_of_ble_eq_true rfl) dX10_play_8 (fun H2 locsH2 hP' hD' hS' => ?_)
  have hP' : va_P (dC, dI) vwCl (fl [(w_X10 ad (0) cs en (sU (sU x1 1 (sU (x1 1) 1 q.2)) 1 (sU ((sU x1 1 (sU (x1 1) 1 q.2)) 1) 3 (sU ((sU x1 1 (sU (x1 1) 1 q.2)) 1 3) 1 q.1))))]) H2 := hP'
  have hD' : va_D A (fl [(w_X10 ad (0) cs en (sU (sU x1 1 (sU (x1 1) 1 q.2)) 1 (sU ((sU x1 1 (sU (x1 1) 1 q.2)) 1) 3 (sU ((sU x1 1 (sU (x1 1) 1 q.2)) 1 3) 1 q.1))))]) := hD'
  replace hP : va_P (dC, dI) vwCl (fl [(w_X10 ad (0) cs en y)]) H2 := by rw [← ey]; exact hP'
  replace hD : va_D A (fl [(w_X10 ad (0) cs en y)]) := by rw [← ey]; exact hD'
  replace hS := hS'
  clear hP' hD' hS'
  obtain ⟨f, gf, hR⟩ := bd_e hR
  refine lv_aload_n hx hb dX10_play_11 rfl (lv_at hl 0 rfl) ?_
  refine va_get (D := (dC, dI)) (ci := 8) (v := .ref (ad (0 + 202))) (C := RX10) (T := TX10) (N := 7) hx hb hts hinX10 hown hK hP 0 rfl rfl 6 (by decide) hF39 (fun _ h9 => h9) rfl dX10_play_12 ?_
  replace hP : va_P (dC, dI) vwCl (fl [[((ad 0), .inr (8, [.ref (ad (0 + 1)), .ref (ad (0 + 29)), .ref (ad (0 + 57)), .int (y 1 3 2 0 0), .ref (ad (0 + 85)), .ref (ad (0 + 199)), .ref (ad (0 + 202))]))], (w_X5 ad (0 + 1) cs (y 1 0)), (w_X5 ad (0 + 29) cs (y 1 1)), (w_X5 ad (0 + 57) cs (y 1 2)), (w_X3 ad (0 + 85) cs (y 0)), (w_X2 ad (0 + 199) cs (y 1 3 0)), (w_X7 ad (0 + 202) cs en (y 1 3 1))]) H2 := hP
  replace hD : va_D A (fl [[((ad 0), .inr (8, [.ref (ad (0 + 1)), .ref (ad (0 + 29)), .ref (ad (0 + 57)), .int (y 1 3 2 0 0), .ref (ad (0 + 85)), .ref (ad (0 + 199)), .ref (ad (0 + 202))]))], (w_X5 ad (0 + 1) cs (y 1 0)), (w_X5 ad (0 + 29) cs (y 1 1)), (w_X5 ad (0 + 57) cs (y 1 2)), (w_X3 ad (0 + 85) cs (y 0)), (w_X2 ad (0 + 199) cs (y 1 3 0)), (w_X7 ad (0 + 202) cs en (y 1 3 1))]) := hD
  refine cl_Vi (As := []) (rest := []) (L := [[((ad 0), .inr (8, [.ref (ad (0 + 1)), .ref (ad (0 + 29)), .ref (ad (0 + 57)), .int (y 1 3 2 0 0), .ref (ad (0 + 85)), .ref (ad (0 + 199)), .ref (ad (0 + 202))]))], (w_X5 ad (0 + 1) cs (y 1 0)), (w_X5 ad (0 + 29) cs (y 1 1)), (w_X5 ad (0 + 57) cs (y 1 2)), (w_X3 ad (0 + 85) cs (y 0)), (w_X2 ad (0 + 199) cs (y 1 3 0)), (w_X7 ad (0 + 202) cs en (y 1 3 1))]) (L' := [[((ad 0), .inr (8, [.ref (ad (0 + 1)), .ref (ad (0 + 29)), .ref (ad (0 + 57)), .int (y 1 3 2 0 0), .ref (ad (0 + 85)), .ref (ad (0 + 199)), .ref (ad (0 + 202))]))], (w_X5 ad (0 + 1) cs (y 1 0)), (w_X5 ad (0 + 29) cs (y 1 1)), (w_X5 ad (0 + 57) cs (y 1 2)), (w_X3 ad (0 + 85) cs (y 0)), (w_X2 ad (0 + 199) cs (y 1 3 0)), (w_X7 ad (0 + 202) cs en (y 1 3 1))]) (Wc := [(w_X7 ad (0 + 202) cs en (y 1 3 1))]) (Wc' := [(w_X7 ad (0 + 202) cs en (y 1 3 1))]) (is := [6]) (js := [0, 1, 2, 3, 4, 5]) ⟨hx, hb, hml, hown, hts⟩ (k_X7_hasFault l dC dI cs ad en (0 + 202) H2.size (y 1 3 1) f gf) (cwV 0 hts gX10_play_X7_hasFault rfl rfl rfl cd_X7_hasFault ⟨Nat.le_of_ble_eq_true rfl, Nat.le_of_ble_eq_true rfl⟩) hK hP hD hS hA ⟨rfl, rfl, rfl, rfl, rfl, rfl⟩ (jn_nd (is := [6]) hD rfl rfl) 202 6 rfl rfl rfl rfl rfl hl.1 (Nat.le_of_ble_eq_true rfl) dX10_play_15 (fun H3 locsH3 hP' hD' hS' => ?_)
  replace hP : va_P (dC, dI) vwCl (fl [(w_X10 ad (0) cs en y)]) H3 := hP'
  replace hD : va_D A (fl [(w_X10 ad (0) cs en y)]) := hD'
  replace hS := hS'
  clear hP' hD' hS'
  refine lv_if_eq (tgt := 26) hx hb dX10_play_18 (by decide) (fun c18 => ?_) (fun c18 => ?_)
  · replace hR := it_t hR c18
    obtain ⟨q5, g5, hR⟩ := bd_e hR
    obtain ⟨e1, e2⟩ := Prod.mk.inj (Option.some.inj hR)
    refine lv_aload_n hx hb dX10_play_26 rfl (lv_at hl 0 rfl) ?_
    refine lv_aload_n hx hb dX10_play_27 rfl (lv_at hl 0 rfl) ?_
    refine va_get (D := (dC, dI)) (ci := 8) (v := .ref (ad (0 + 202))) (C := RX10) (T := TX10) (N := 7) hx hb hts hinX10 hown hK hP 0 rfl rfl 6 (by decide) hF39 (fun _ h9 => h9) rfl dX10_play_28 ?_
    refine va_get (D := (dC, dI)) (ci := 6) (v := .int (y 1 3 1 2 1)) (C := RX7) (T := TX7) (N := 9) hx hb hts hinX7 hown hK hP 202 rfl rfl 1 (by decide) hF276 (fun _ h9 => h9) rfl dX10_play_31 ?_
    refine cl_Vi (As := [.int (y 1 3 1 2 1)]) (rest := []) (L := [(w_X10 ad (0) cs en y)]) (L' := [(w_X10 ad (0) cs en q5.2)]) (Wc := [(w_X10 ad (0) cs en y)]) (Wc' := [(w_X10 ad (0) cs en q5.2)]) (is := [0]) (js := []) ⟨hx, hb, hml, hown, hts⟩ (k_X10_settle l dC dI cs ad en H3.size y (y 1 3 1 2 1) q5.1 q5.2 g5) (cwV 1 hts gX10_play_X10_settle rfl rfl rfl cd_X10_settle ⟨Nat.le_of_ble_eq_true rfl, Nat.le_of_ble_eq_true rfl⟩) hK hP hD hS hA ⟨rfl, rfl, rfl, rfl, rfl, rfl⟩ (jn_nd (is := [0]) hD rfl rfl) 0 8 rfl rfl rfl rfl rfl hl.1 (Nat.le_of_ble_eq_true rfl) dX10_play_34 (fun H4 locsH4 hP' hD' hS' => ?_)
    replace hP : va_P (dC, dI) vwCl (fl [(w_X10 ad (0) cs en u1)]) H4 := by rw [← e2]; exact hP'
    replace hD : va_D A (fl [(w_X10 ad (0) cs en u1)]) := by rw [← e2]; exact hD'
    replace hS := hS'
    clear hP' hD' hS'
    exact W.iret hx hb hr (fun t ht hW => ⟨⟨_, (), rfl, e1, by rw [ht]; exact hP, va_K.moved hW.alike hK, hD⟩, hS.F ht⟩) hS.2.2 dX10_play_37
  · obtain ⟨e1, e2⟩ := Prod.mk.inj (Option.some.inj (it_f hR c18))
    subst e2
    refine lv_bipush (v := (-2)) hx hb dX10_play_21 bp_m2 ?_
    refine lv_goto (tgt := 37) hx hb dX10_play_23 (by decide) ?_
    exact W.iret hx hb hr (fun t ht hW => ⟨⟨_, (), rfl, e1, by rw [ht]; exact hP, va_K.moved hW.alike hK, hD⟩, hS.F ht⟩) hS.2.2 dX10_play_37
