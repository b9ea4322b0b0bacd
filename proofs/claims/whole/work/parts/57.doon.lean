/-! DO: a command done -/
section CLU
variable {p : Program} {l : Launch} {e : Env} {R : Room} {s : State} {m : MethodId} {args : Array Value} {below : List Frame} {meth : Method} {c : Code} {H : Heap} {locs : List Loc} {Q : State → Prop}
variable {cc bytes : ByteArray} {pc nL index maxL n : Nat} {ls : Array Slot} {rest st0 As : List Value} {Ts ws : List Cond} {own C owner : String} {x y : MethodName} {ret : Option FieldType} {rm : Room} {dC : Nat → ClassId} {dI : Nat → Nat → Nat} {tys : List (ClassId × FieldType)} {is js : List Nat} {L L' Wc Wc' : List va_W} {A0 : Nat → Prop} {b : Addr} {r : Int32} {aK aV en : Nat → Nat} {tF tS : Nat}
theorem cl_UiE (S0 : CallFix p m c cc nL s args Ts own)
    (hM : Met l y ws rm (va_Pc (.ref b :: As) (pE dC dI tys aK aV en tF tS Wc.flatten H.size)) (QI dC dI tys (va_A Wc.flatten H.size) Wc'.flatten r) 0 0 (va_A Wc.flatten H.size))
    (cw : va_CU R s args own C owner index x y bytes maxL ret ws rm 0 0 n) (hK : va_K (dC, dI) vwCl tys s) (hP : va_P (dC, dI) vwCl L.flatten H) (hD : va_D A0 L.flatten) (hS : va_S A0 s.heap H locs) (hA : ∀ q, s.heap.size ≤ q → A0 q) (hE : EX aK aV en tF tS A0 s s.heap)
    (j : JN is js L L' Wc Wc') (nd : va_D (fun _ => True) Wc.flatten) (hrec : ∃ cell : Cell, H[b]? = some cell ∧ cell.vm.isStatics = false ∧ s.vm.findClass C = some cell.cls)
    (hst : st0 = As.reverse ++ .ref b :: rest) (hn : As.length = n) (hsize : ls.size = nL) (hr : (rest.map fun v => v.category).sum ≤ 8) (hdg : decode cc pc = .ok (.invokevirtual index, 3))
    (kk : ∀ (H1 : Heap) (locs1 : List Loc), va_P (dC, dI) vwCl L'.flatten H1 → va_D A0 L'.flatten → va_S A0 s.heap H1 locs1 → W p l e R s m args below meth c H1 locs1 0 0 Q (F0 m (pc + 3) ls (.int r :: rest))) : W p l e R s m args below meth c H locs 0 0 Q (F0 m pc ls st0) := by
  have hF := jn_free j.1 hD hS hA
  refine va_calli (va_runU (rest := rest) S0 hM cw ⟨fb_pE, hrec, fun U hU hW => ⟨rfl, ⟨by rw [hU], by rw [hU]; exact jn_P j.1 hP, va_K.moved hW.alike hK, nd⟩, by rw [hU]; exact ((hE.kept hS.2.1).moved hW.alike).narrow hF⟩⟩ rfl hn hsize hst (lv_room hr) hdg ⟨Nat.zero_le _, Nat.zero_le _⟩) hS (fun q _ h => hF q h) hF (fun r1 u t H1 locs1 ht hvm hw hB hz1 hk1 hS1 => ?_)
  obtain ⟨hP1, -, -⟩ := hB
  rw [ht] at hP1
  obtain ⟨a1, a2⟩ := jn j hP hD hk1 hP1
  subst hw
  exact kk H1 locs1 a1 a2 hS1
end CLU
set_option maxHeartbeats 8000000 in
set_option maxRecDepth 100000 in
theorem k_X9_doOn (l : Launch) (dC : Nat → ClassId) (dI : Nat → Nat → Nat) (cs : Nat → ClassId) (ad : Nat → Nat) (aK aV en : Nat → Nat) (tF tS b1 v sz : Nat) (hv : v < 10) (S1 : T3) (p1 p2 : Int32) (r : Int32) (u1 : T3) (hR : fX9_doOn v S1 p1 p2 = some (r, u1)) : Met l yX9_doOn wsX9_doOn ({ frames := 4, cells := 0, slots := 0, locals := 100 } : Room) (va_Pc [.ref (en v), .ref (ad b1), .int p1, .int p2] (pE dC dI (tyL cs) aK aV en tF tS (fl [(w_X5 ad (b1) cs S1)]) sz)) (QI dC dI (tyL cs) (va_A (fl [(w_X5 ad (b1) cs S1)]) sz) (fl [(w_X5 ad (b1) cs u1)]) r) 0 0 (va_A (fl [(w_X5 ad (b1) cs S1)]) sz) := by
  refine mt_E (own := RX9) (cc := cX9_doOn) (maxL := 4) (ret := (some .int)) (Qc := fun A => QI dC dI (tyL cs) A (fl [(w_X5 ad (b1) cs u1)]) r) rfl (by decide) rfl (Nat.le_of_ble_eq_true rfl) (fun p e s m below meth c A ls hsz hx hb hr hts hown hlocks hml hA hK hP hD hS hl hE => ?_)
  subst hsz
  have hl : lv_has ls 4 [(0, .ref (en v)), (1, .ref (ad b1)), (2, .int p1), (3, .int p2)] := hl
  have hF61 := hts (.fieldLink RX9 61 "DockedBikes$1" "$SwitchMap$DockedBikes$Verb" "[I") (by decide +kernel)
  refine va_gets hx hb hE.2.2.2.2.2.2.2.1 hS hown hF61 (fun _ h9 => h9) dX9_doOn_0 ?_
  refine lv_aload_n hx hb dX9_doOn_3 rfl (lv_at hl 0 rfl) ?_
  refine cl_UiE (C := RX9) (As := []) (rest := [.ref tS]) (L := [(w_X5 ad (b1) cs S1)]) (L' := [(w_X5 ad (b1) cs S1)]) (Wc := []) (Wc' := []) (is := []) (js := [0]) ⟨hx, hb, hml, hown, hts⟩ (k_ordinal l dC dI cs aK aV en tF tS v s.heap.size hv) (va_cwU 0 hts gX9_doOn_Jx29ce0_ordinal_8abf5_u67X9 rfl rfl rfl rfl (by decide +kernel) ⟨Nat.le_of_ble_eq_true rfl, Nat.le_of_ble_eq_true rfl⟩) hK hP hD hS hA hE ⟨rfl, rfl, rfl, rfl, rfl, rfl⟩ (jn_nd (L := [(w_X5 ad (b1) cs S1)]) (is := []) hD rfl rfl) (by obtain ⟨cell, h1, h2, h3, -⟩ := (hE.2.2.2.1 v hv).kept hS.2.1; exact ⟨cell, h1, h2, h3⟩) rfl rfl hl.1 (Nat.le_of_ble_eq_true rfl) dX9_doOn_4 (fun H1 locs1 hP1 hD1 hS1 => ?_)
  refine va_ti hx hb hE.2.2.2.2.2.2.2.2 hS1 (vp_in_nI hv (by decide)) (v := .int (xsw v)) (by rw [cl_nI (by omega)]) dX9_doOn_7 ?_
  rcases (show v = 0 ∨ v = 1 ∨ v = 2 ∨ v = 3 ∨ v = 4 ∨ v = 5 ∨ v = 6 ∨ v = 7 ∨ v = 8 ∨ v = 9 by omega) with rfl | rfl | rfl | rfl | rfl | rfl | rfl | rfl | rfl | rfl
  · refine lv_tableIn (tgt := 60) hx hb dX9_doOn_8 (by decide +kernel) (by decide +kernel) (off := 52) (by decide +kernel) (by decide) ?_
    refine lv_aload_n hx hb dX9_doOn_60 rfl (lv_at hl 1 rfl) ?_
    refine lv_iload_n hx hb dX9_doOn_61 rfl (lv_at hl 2 rfl) ?_
    refine lv_iload_n hx hb dX9_doOn_62 rfl (lv_at hl 3 rfl) ?_
    refine cl_Vi (As := [.int p1, .int p2]) (rest := []) (L := [(w_X5 ad (b1) cs S1)]) (L' := [(w_X5 ad (b1) cs u1)]) (Wc := [(w_X5 ad (b1) cs S1)]) (Wc' := [(w_X5 ad (b1) cs u1)]) (is := [0]) (js := []) ⟨hx, hb, hml, hown, hts⟩ (k_X5_beginRide l dC dI cs ad b1 H1.size S1 p1 p2 r u1 hR) (cwV 2 hts gX9_doOn_X5_beginRide rfl rfl rfl cd_X5_beginRide ⟨Nat.le_of_ble_eq_true rfl, Nat.le_of_ble_eq_true rfl⟩) hK hP1 hD1 hS1 hA ⟨rfl, rfl, rfl, rfl, rfl, rfl⟩ (jn_nd (L := [(w_X5 ad (b1) cs S1)]) (is := [0]) hD1 rfl rfl) 0 4 rfl rfl rfl rfl rfl hl.1 (Nat.le_of_ble_eq_true rfl) dX9_doOn_63 (fun H2 locs2 hP2 hD2 hS2 => ?_)
    exact W.iret hx hb hr (fun t ht hW => ⟨⟨_, (), rfl, rfl, by rw [ht]; exact hP2, va_K.moved hW.alike hK, hD2⟩, hS2.F ht⟩) hS2.2.2 dX9_doOn_66
  · refine lv_tableIn (tgt := 67) hx hb dX9_doOn_8 (by decide +kernel) (by decide +kernel) (off := 59) (by decide +kernel) (by decide) ?_
    refine lv_aload_n hx hb dX9_doOn_67 rfl (lv_at hl 1 rfl) ?_
    refine lv_iload_n hx hb dX9_doOn_68 rfl (lv_at hl 2 rfl) ?_
    refine lv_iload_n hx hb dX9_doOn_69 rfl (lv_at hl 3 rfl) ?_
    refine cl_Vi (As := [.int p1, .int p2]) (rest := []) (L := [(w_X5 ad (b1) cs S1)]) (L' := [(w_X5 ad (b1) cs u1)]) (Wc := [(w_X5 ad (b1) cs S1)]) (Wc' := [(w_X5 ad (b1) cs u1)]) (is := [0]) (js := []) ⟨hx, hb, hml, hown, hts⟩ (k_X5_endRide l dC dI cs ad b1 H1.size S1 p1 p2 r u1 hR) (cwV 2 hts gX9_doOn_X5_endRide rfl rfl rfl cd_X5_endRide ⟨Nat.le_of_ble_eq_true rfl, Nat.le_of_ble_eq_true rfl⟩) hK hP1 hD1 hS1 hA ⟨rfl, rfl, rfl, rfl, rfl, rfl⟩ (jn_nd (L := [(w_X5 ad (b1) cs S1)]) (is := [0]) hD1 rfl rfl) 0 4 rfl rfl rfl rfl rfl hl.1 (Nat.le_of_ble_eq_true rfl) dX9_doOn_70 (fun H2 locs2 hP2 hD2 hS2 => ?_)
    exact W.iret hx hb hr (fun t ht hW => ⟨⟨_, (), rfl, rfl, by rw [ht]; exact hP2, va_K.moved hW.alike hK, hD2⟩, hS2.F ht⟩) hS2.2.2 dX9_doOn_73
  · refine lv_tableIn (tgt := 74) hx hb dX9_doOn_8 (by decide +kernel) (by decide +kernel) (off := 66) (by decide +kernel) (by decide) ?_
    refine lv_aload_n hx hb dX9_doOn_74 rfl (lv_at hl 1 rfl) ?_
    refine lv_iload_n hx hb dX9_doOn_75 rfl (lv_at hl 2 rfl) ?_
    refine lv_iload_n hx hb dX9_doOn_76 rfl (lv_at hl 3 rfl) ?_
    refine cl_Vi (As := [.int p1, .int p2]) (rest := []) (L := [(w_X5 ad (b1) cs S1)]) (L' := [(w_X5 ad (b1) cs u1)]) (Wc := [(w_X5 ad (b1) cs S1)]) (Wc' := [(w_X5 ad (b1) cs u1)]) (is := [0]) (js := []) ⟨hx, hb, hml, hown, hts⟩ (k_X5_tellFull l dC dI cs ad b1 H1.size S1 p1 p2 r u1 hR) (cwV 2 hts gX9_doOn_X5_tellFull rfl rfl rfl cd_X5_tellFull ⟨Nat.le_of_ble_eq_true rfl, Nat.le_of_ble_eq_true rfl⟩) hK hP1 hD1 hS1 hA ⟨rfl, rfl, rfl, rfl, rfl, rfl⟩ (jn_nd (L := [(w_X5 ad (b1) cs S1)]) (is := [0]) hD1 rfl rfl) 0 4 rfl rfl rfl rfl rfl hl.1 (Nat.le_of_ble_eq_true rfl) dX9_doOn_77 (fun H2 locs2 hP2 hD2 hS2 => ?_)
    exact W.iret hx hb hr (fun t ht hW => ⟨⟨_, (), rfl, rfl, by rw [ht]; exact hP2, va_K.moved hW.alike hK, hD2⟩, hS2.F ht⟩) hS2.2.2 dX9_doOn_80
  · refine lv_tableIn (tgt := 81) hx hb dX9_doOn_8 (by decide +kernel) (by decide +kernel) (off := 73) (by decide +kernel) (by decide) ?_
    refine lv_aload_n hx hb dX9_doOn_81 rfl (lv_at hl 1 rfl) ?_
    refine lv_iload_n hx hb dX9_doOn_82 rfl (lv_at hl 2 rfl) ?_
    refine cl_Vi (As := [.int p1]) (rest := []) (L := [(w_X5 ad (b1) cs S1)]) (L' := [(w_X5 ad (b1) cs u1)]) (Wc := [(w_X5 ad (b1) cs S1)]) (Wc' := [(w_X5 ad (b1) cs u1)]) (is := [0]) (js := []) ⟨hx, hb, hml, hown, hts⟩ (k_X5_tellFaulty l dC dI cs ad b1 H1.size S1 p1 r u1 hR) (cwV 1 hts gX9_doOn_X5_tellFaulty rfl rfl rfl cd_X5_tellFaulty ⟨Nat.le_of_ble_eq_true rfl, Nat.le_of_ble_eq_true rfl⟩) hK hP1 hD1 hS1 hA ⟨rfl, rfl, rfl, rfl, rfl, rfl⟩ (jn_nd (L := [(w_X5 ad (b1) cs S1)]) (is := [0]) hD1 rfl rfl) 0 4 rfl rfl rfl rfl rfl hl.1 (Nat.le_of_ble_eq_true rfl) dX9_doOn_83 (fun H2 locs2 hP2 hD2 hS2 => ?_)
    exact W.iret hx hb hr (fun t ht hW => ⟨⟨_, (), rfl, rfl, by rw [ht]; exact hP2, va_K.moved hW.alike hK, hD2⟩, hS2.F ht⟩) hS2.2.2 dX9_doOn_86
  · refine lv_tableIn (tgt := 87) hx hb dX9_doOn_8 (by decide +kernel) (by decide +kernel) (off := 79) (by decide +kernel) (by decide) ?_
    refine lv_aload_n hx hb dX9_doOn_87 rfl (lv_at hl 1 rfl) ?_
    refine lv_iload_n hx hb dX9_doOn_88 rfl (lv_at hl 2 rfl) ?_
    refine lv_iload_n hx hb dX9_doOn_89 rfl (lv_at hl 3 rfl) ?_
    refine cl_Vi (As := [.int p1, .int p2]) (rest := []) (L := [(w_X5 ad (b1) cs S1)]) (L' := [(w_X5 ad (b1) cs u1)]) (Wc := [(w_X5 ad (b1) cs S1)]) (Wc' := [(w_X5 ad (b1) cs u1)]) (is := [0]) (js := []) ⟨hx, hb, hml, hown, hts⟩ (k_X5_load l dC dI cs ad b1 H1.size S1 p1 p2 r u1 hR) (cwV 2 hts gX9_doOn_X5_load rfl rfl rfl cd_X5_load ⟨Nat.le_of_ble_eq_true rfl, Nat.le_of_ble_eq_true rfl⟩) hK hP1 hD1 hS1 hA ⟨rfl, rfl, rfl, rfl, rfl, rfl⟩ (jn_nd (L := [(w_X5 ad (b1) cs S1)]) (is := [0]) hD1 rfl rfl) 0 4 rfl rfl rfl rfl rfl hl.1 (Nat.le_of_ble_eq_true rfl) dX9_doOn_90 (fun H2 locs2 hP2 hD2 hS2 => ?_)
    exact W.iret hx hb hr (fun t ht hW => ⟨⟨_, (), rfl, rfl, by rw [ht]; exact hP2, va_K.moved hW.alike hK, hD2⟩, hS2.F ht⟩) hS2.2.2 dX9_doOn_93
  · refine lv_tableIn (tgt := 94) hx hb dX9_doOn_8 (by decide +kernel) (by decide +kernel) (off := 86) (by decide +kernel) (by decide) ?_
    refine lv_aload_n hx hb dX9_doOn_94 rfl (lv_at hl 1 rfl) ?_
    refine lv_iload_n hx hb dX9_doOn_95 rfl (lv_at hl 2 rfl) ?_
    refine lv_iload_n hx hb dX9_doOn_96 rfl (lv_at hl 3 rfl) ?_
    refine cl_Vi (As := [.int p1, .int p2]) (rest := []) (L := [(w_X5 ad (b1) cs S1)]) (L' := [(w_X5 ad (b1) cs u1)]) (Wc := [(w_X5 ad (b1) cs S1)]) (Wc' := [(w_X5 ad (b1) cs u1)]) (is := [0]) (js := []) ⟨hx, hb, hml, hown, hts⟩ (k_X5_unload l dC dI cs ad b1 H1.size S1 p1 p2 r u1 hR) (cwV 2 hts gX9_doOn_X5_unload rfl rfl rfl cd_X5_unload ⟨Nat.le_of_ble_eq_true rfl, Nat.le_of_ble_eq_true rfl⟩) hK hP1 hD1 hS1 hA ⟨rfl, rfl, rfl, rfl, rfl, rfl⟩ (jn_nd (L := [(w_X5 ad (b1) cs S1)]) (is := [0]) hD1 rfl rfl) 0 4 rfl rfl rfl rfl rfl hl.1 (Nat.le_of_ble_eq_true rfl) dX9_doOn_97 (fun H2 locs2 hP2 hD2 hS2 => ?_)
    exact W.iret hx hb hr (fun t ht hW => ⟨⟨_, (), rfl, rfl, by rw [ht]; exact hP2, va_K.moved hW.alike hK, hD2⟩, hS2.F ht⟩) hS2.2.2 dX9_doOn_100
  · refine lv_tableIn (tgt := 101) hx hb dX9_doOn_8 (by decide +kernel) (by decide +kernel) (off := 93) (by decide +kernel) (by decide) ?_
    refine lv_aload_n hx hb dX9_doOn_101 rfl (lv_at hl 1 rfl) ?_
    refine lv_iload_n hx hb dX9_doOn_102 rfl (lv_at hl 2 rfl) ?_
    refine lv_iload_n hx hb dX9_doOn_103 rfl (lv_at hl 3 rfl) ?_
    refine cl_Vi (As := [.int p1, .int p2]) (rest := []) (L := [(w_X5 ad (b1) cs S1)]) (L' := [(w_X5 ad (b1) cs u1)]) (Wc := [(w_X5 ad (b1) cs S1)]) (Wc' := [(w_X5 ad (b1) cs u1)]) (is := [0]) (js := []) ⟨hx, hb, hml, hown, hts⟩ (k_X5_sendVan l dC dI cs ad b1 H1.size S1 p1 p2 r u1 hR) (cwV 2 hts gX9_doOn_X5_sendVan rfl rfl rfl cd_X5_sendVan ⟨Nat.le_of_ble_eq_true rfl, Nat.le_of_ble_eq_true rfl⟩) hK hP1 hD1 hS1 hA ⟨rfl, rfl, rfl, rfl, rfl, rfl⟩ (jn_nd (L := [(w_X5 ad (b1) cs S1)]) (is := [0]) hD1 rfl rfl) 0 4 rfl rfl rfl rfl rfl hl.1 (Nat.le_of_ble_eq_true rfl) dX9_doOn_104 (fun H2 locs2 hP2 hD2 hS2 => ?_)
    exact W.iret hx hb hr (fun t ht hW => ⟨⟨_, (), rfl, rfl, by rw [ht]; exact hP2, va_K.moved hW.alike hK, hD2⟩, hS2.F ht⟩) hS2.2.2 dX9_doOn_107
  · refine lv_tableIn (tgt := 108) hx hb dX9_doOn_8 (by decide +kernel) (by decide +kernel) (off := 100) (by decide +kernel) (by decide) ?_
    refine lv_aload_n hx hb dX9_doOn_108 rfl (lv_at hl 1 rfl) ?_
    refine lv_iload_n hx hb dX9_doOn_109 rfl (lv_at hl 2 rfl) ?_
    refine lv_iload_n hx hb dX9_doOn_110 rfl (lv_at hl 3 rfl) ?_
    refine cl_Vi (As := [.int p1, .int p2]) (rest := []) (L := [(w_X5 ad (b1) cs S1)]) (L' := [(w_X5 ad (b1) cs u1)]) (Wc := [(w_X5 ad (b1) cs S1)]) (Wc' := [(w_X5 ad (b1) cs u1)]) (is := [0]) (js := []) ⟨hx, hb, hml, hown, hts⟩ (k_X5_handOver l dC dI cs ad b1 H1.size S1 p1 p2 r u1 hR) (cwV 2 hts gX9_doOn_X5_handOver rfl rfl rfl cd_X5_handOver ⟨Nat.le_of_ble_eq_true rfl, Nat.le_of_ble_eq_true rfl⟩) hK hP1 hD1 hS1 hA ⟨rfl, rfl, rfl, rfl, rfl, rfl⟩ (jn_nd (L := [(w_X5 ad (b1) cs S1)]) (is := [0]) hD1 rfl rfl) 0 4 rfl rfl rfl rfl rfl hl.1 (Nat.le_of_ble_eq_true rfl) dX9_doOn_111 (fun H2 locs2 hP2 hD2 hS2 => ?_)
    exact W.iret hx hb hr (fun t ht hW => ⟨⟨_, (), rfl, rfl, by rw [ht]; exact hP2, va_K.moved hW.alike hK, hD2⟩, hS2.F ht⟩) hS2.2.2 dX9_doOn_114
  · refine lv_tableIn (tgt := 115) hx hb dX9_doOn_8 (by decide +kernel) (by decide +kernel) (off := 107) (by decide +kernel) (by decide) ?_
    refine lv_aload_n hx hb dX9_doOn_115 rfl (lv_at hl 1 rfl) ?_
    refine lv_iload_n hx hb dX9_doOn_116 rfl (lv_at hl 2 rfl) ?_
    refine cl_Vi (As := [.int p1]) (rest := []) (L := [(w_X5 ad (b1) cs S1)]) (L' := [(w_X5 ad (b1) cs u1)]) (Wc := [(w_X5 ad (b1) cs S1)]) (Wc' := [(w_X5 ad (b1) cs u1)]) (is := [0]) (js := []) ⟨hx, hb, hml, hown, hts⟩ (k_X5_sellPass l dC dI cs ad b1 H1.size S1 p1 r u1 hR) (cwV 1 hts gX9_doOn_X5_sellPass rfl rfl rfl cd_X5_sellPass ⟨Nat.le_of_ble_eq_true rfl, Nat.le_of_ble_eq_true rfl⟩) hK hP1 hD1 hS1 hA ⟨rfl, rfl, rfl, rfl, rfl, rfl⟩ (jn_nd (L := [(w_X5 ad (b1) cs S1)]) (is := [0]) hD1 rfl rfl) 0 4 rfl rfl rfl rfl rfl hl.1 (Nat.le_of_ble_eq_true rfl) dX9_doOn_117 (fun H2 locs2 hP2 hD2 hS2 => ?_)
    exact W.iret hx hb hr (fun t ht hW => ⟨⟨_, (), rfl, rfl, by rw [ht]; exact hP2, va_K.moved hW.alike hK, hD2⟩, hS2.F ht⟩) hS2.2.2 dX9_doOn_120
  · refine lv_tableOut (tgt := 121) hx hb dX9_doOn_8 (by decide +kernel) (by decide) ?_
    refine lv_aload_n hx hb dX9_doOn_121 rfl (lv_at hl 1 rfl) ?_
    refine lv_iload_n hx hb dX9_doOn_122 rfl (lv_at hl 2 rfl) ?_
    refine cl_Vi (As := [.int p1]) (rest := []) (L := [(w_X5 ad (b1) cs S1)]) (L' := [(w_X5 ad (b1) cs u1)]) (Wc := [(w_X5 ad (b1) cs S1)]) (Wc' := [(w_X5 ad (b1) cs u1)]) (is := [0]) (js := []) ⟨hx, hb, hml, hown, hts⟩ (k_X5_letGoBy l dC dI cs ad b1 H1.size S1 p1 r u1 hR) (cwV 1 hts gX9_doOn_X5_letGoBy rfl rfl rfl cd_X5_letGoBy ⟨Nat.le_of_ble_eq_true rfl, Nat.le_of_ble_eq_true rfl⟩) hK hP1 hD1 hS1 hA ⟨rfl, rfl, rfl, rfl, rfl, rfl⟩ (jn_nd (L := [(w_X5 ad (b1) cs S1)]) (is := [0]) hD1 rfl rfl) 0 4 rfl rfl rfl rfl rfl hl.1 (Nat.le_of_ble_eq_true rfl) dX9_doOn_123 (fun H2 locs2 hP2 hD2 hS2 => ?_)
    exact W.iret hx hb hr (fun t ht hW => ⟨⟨_, (), rfl, rfl, by rw [ht]; exact hP2, va_K.moved hW.alike hK, hD2⟩, hS2.F ht⟩) hS2.2.2 dX9_doOn_126
