/-! TRY: the commands of the text in a row -/
section CLW
variable {p : Program} {l : Launch} {e : Env} {R : Room} {s : State} {m : MethodId} {args : Array Value} {below : List Frame} {meth : Method} {c : Code} {H : Heap} {locs : List Loc} {Q : State → Prop}
variable {cc bytes : ByteArray} {pc nL index maxL n : Nat} {ls : Array Slot} {rest st0 As : List Value} {Ts ws : List Cond} {own C : String} {y : MethodName} {ret : Option FieldType} {rm : Room} {dC : Nat → ClassId} {dI : Nat → Nat → Nat} {tys : List (ClassId × FieldType)} {is js : List Nat} {L L' Wc Wc' : List va_W} {A0 : Nat → Prop} {b : Addr} {aK aV en : Nat → Nat} {tF tS : Nat}
theorem cl_VvE (S0 : CallFix p m c cc nL s args Ts own)
    (hM : Met l y ws rm (va_Pc (.ref b :: As) (pE dC dI tys aK aV en tF tS Wc.flatten H.size)) (QV dC dI tys (va_A Wc.flatten H.size) Wc'.flatten) 0 0 (va_A Wc.flatten H.size))
    (cw : CallW R s args own C index y bytes maxL ret ws rm 0 0 n) (hK : va_K (dC, dI) vwCl tys s) (hP : va_P (dC, dI) vwCl L.flatten H) (hD : va_D A0 L.flatten) (hS : va_S A0 s.heap H locs) (hA : ∀ q, s.heap.size ≤ q → A0 q) (hE : EX aK aV en tF tS A0 s s.heap)
    (j : JN is js L L' Wc Wc') (nd : va_D (fun _ => True) Wc.flatten) (hrec : ∃ cell : Cell, H[b]? = some cell ∧ cell.vm.isStatics = false ∧ s.vm.findClass C = some cell.cls)
    (hst : st0 = As.reverse ++ .ref b :: rest) (hn : As.length = n) (hsize : ls.size = nL) (hr : (rest.map fun v => v.category).sum ≤ 8) (hdg : decode cc pc = .ok (.invokevirtual index, 3))
    (kk : ∀ (H1 : Heap) (locs1 : List Loc), va_P (dC, dI) vwCl L'.flatten H1 → va_D A0 L'.flatten → va_S A0 s.heap H1 locs1 → W p l e R s m args below meth c H1 locs1 0 0 Q (F0 m (pc + 3) ls rest)) : W p l e R s m args below meth c H locs 0 0 Q (F0 m pc ls st0) := by
  have hF := jn_free j.1 hD hS hA
  refine va_callv (va_runV (rest := rest) S0 hM cw ⟨fb_pE, hrec, fun U hU hW => ⟨rfl, ⟨by rw [hU], by rw [hU]; exact jn_P j.1 hP, va_K.moved hW.alike hK, nd⟩, by rw [hU]; exact ((hE.kept hS.2.1).moved hW.alike).narrow hF⟩⟩ rfl hn hsize hst (lv_room hr) hdg ⟨Nat.zero_le _, Nat.zero_le _⟩) hS (fun q _ h => hF q h) hF (fun u t H1 locs1 ht hvm hw hB hz1 hk1 hS1 => ?_)
  obtain ⟨hP1, -, -⟩ := hB
  rw [ht] at hP1
  obtain ⟨a1, a2⟩ := jn j hP hD hk1 hP1
  exact kk H1 locs1 a1 a2 hS1
end CLW
theorem cd_X7_readCommand : yX7_readCommand.cls = RX7 ∧ yX7_readCommand.cls ≠ "java/lang/invoke/MethodHandle" ∧ yX7_readCommand.cls ≠ "java/lang/invoke/VarHandle" ∧ (parseMethodDescriptor yX7_readCommand.desc).map (fun d => d.parameters.length) = some 0 := by decide +kernel
theorem cd_X9_doOn : yX9_doOn.cls = RX9 ∧ yX9_doOn.cls ≠ "java/lang/invoke/MethodHandle" ∧ yX9_doOn.cls ≠ "java/lang/invoke/VarHandle" ∧ (parseMethodDescriptor yX9_doOn.desc).map (fun d => d.parameters.length) = some 3 := by decide +kernel
theorem cd_X7_tryOn : yX7_tryOn.cls = RX7 ∧ yX7_tryOn.cls ≠ "java/lang/invoke/MethodHandle" ∧ yX7_tryOn.cls ≠ "java/lang/invoke/VarHandle" ∧ (parseMethodDescriptor yX7_tryOn.desc).map (fun d => d.parameters.length) = some 1 := by decide +kernel
theorem cmd_lt {S1 u : T2} {v : Nat} (h : fX7_readCommand S1 = some (some v, u)) : v < 10 := by
  rw [fX7_readCommand] at h
  obtain ⟨⟨r, S2⟩, g, h⟩ := bd_e h
  cases r with
  | none =>
    obtain ⟨h1, -⟩ := Prod.mk.inj (Option.some.inj h)
    cases h1
  | some e =>
    obtain ⟨⟨q2, S3⟩, g2, h⟩ := bd_e (show bd (fX7_readNumbers S2 (nI (nn e))) _ = _ from h)
    have hv : e < 10 := verb_lt fuel 0 (by omega) g
    by_cases c : q2 = 0
    · have h := it_t h c
      obtain ⟨h1, -⟩ := Prod.mk.inj (Option.some.inj h)
      cases h1
    · have h := it_f h c
      obtain ⟨⟨q3, S4⟩, g3, h⟩ := bd_e h
      by_cases c2 : q3 = 0
      · have h := it_t h c2
        obtain ⟨h1, -⟩ := Prod.mk.inj (Option.some.inj h)
        cases h1
      · have h := it_f h c2
        obtain ⟨h1, -⟩ := Prod.mk.inj (Option.some.inj h)
        cases h1
        exact hv
set_option maxHeartbeats 8000000 in
set_option maxRecDepth 100000 in
theorem k_X7_tryOn (l : Launch) (dC : Nat → ClassId) (dI : Nat → Nat → Nat) (cs : Nat → ClassId) (ad : Nat → Nat) (aK aV en : Nat → Nat) (tF tS b1 b2 sz : Nat) (S1 : T2) (S2 : T3) (u1 : T2) (u2 : T3) (hR : fX7_tryOn S1 S2 = some (u1, u2)) : Met l yX7_tryOn wsX7_tryOn ({ frames := 7, cells := 0, slots := 0, locals := 153 } : Room) (va_Pc [.ref (ad b1), .ref (ad b2)] (pE dC dI (tyL cs) aK aV en tF tS (fl [(w_X7 ad (b1) cs en S1), (w_X5 ad (b2) cs S2)]) sz)) (QV dC dI (tyL cs) (va_A (fl [(w_X7 ad (b1) cs en S1), (w_X5 ad (b2) cs S2)]) sz) (fl [(w_X7 ad (b1) cs en u1), (w_X5 ad (b2) cs u2)])) 0 0 (va_A (fl [(w_X7 ad (b1) cs en S1), (w_X5 ad (b2) cs S2)]) sz) := by
  refine mt_E (own := RX7) (cc := cX7_tryOn) (maxL := 5) (ret := none) (Qc := fun A => QV dC dI (tyL cs) A (fl [(w_X7 ad (b1) cs en u1), (w_X5 ad (b2) cs u2)])) rfl (by decide) rfl (Nat.le_of_ble_eq_true rfl) (fun p e s m below meth c A ls hsz hx hb hr hts hown hlocks hml hA hK hP hD hS hl hE => ?_)
  subst hsz
  have hl : lv_has ls 5 [(0, .ref (ad b1)), (1, .ref (ad b2))] := hl
  have hF11 := hts (.fieldLink RX7 11 "DockedBikes$Text" "faultAt" "I") (List.mem_of_getElem? (i := 1) rfl)
  have hF46 := hts (.fieldLink RX7 46 "DockedBikes$Text" "reading" "I") (List.mem_of_getElem? (i := 2) rfl)
  have hF49 := hts (.fieldLink RX7 49 "DockedBikes$Text" "commands" "I") (List.mem_of_getElem? (i := 3) rfl)
  have hF33 := hts (.fieldLink RX7 33 "DockedBikes$Text" "length" "I") (List.mem_of_getElem? (i := 4) rfl)
  have hF29 := hts (.fieldLink RX7 29 "DockedBikes$Text" "numbers" "[I") (List.mem_of_getElem? (i := 5) rfl)
  have hF40 := hts (.fieldLink RX7 40 "DockedBikes$Text" "reason" "I") (List.mem_of_getElem? (i := 6) rfl)
  have hF43 := hts (.fieldLink RX7 43 "DockedBikes$Text" "cause" "I") (List.mem_of_getElem? (i := 7) rfl)
  have hinX7 : ∀ w ∈ wsX70, w ∈ wsX7_tryOn := by decide +kernel
  have hB : ∀ (n : Nat) (S : T2) (R : T3) (H : Heap) (locs : List Loc) (ls : Array Slot), fX7_tryOn_l n S R = some (u1, u2) → va_P (dC, dI) vwCl (fl [(w_X7 ad (b1) cs en S), (w_X5 ad (b2) cs R)]) H → va_D A (fl [(w_X7 ad (b1) cs en S), (w_X5 ad (b2) cs R)]) → va_S A s.heap H locs → lv_has ls 5 [(0, .ref (ad b1)), (1, .ref (ad b2))] → W p l e (headSpec wsX7_tryOn ({ frames := 7, cells := 0, slots := 0, locals := 153 } : Room)).room s m ([.ref (ad b1), .ref (ad b2)] : List Value).toArray below meth c H locs 0 0 (MQ below (QV dC dI (tyL cs) A (fl [(w_X7 ad (b1) cs en u1), (w_X5 ad (b2) cs u2)])) ([.ref (ad b1), .ref (ad b2)] : List Value).toArray s 0 0 A) (F0 m 15 ls []) := by
    intro n
    induction n with
    | zero => intro S R H locs ls hR; exact nn_e hR
    | succ n ih =>
      intro S R H locs ls hR hP hD hS hl
      have hT : ∀ (S : T2) (R : T3) (H : Heap) (locs : List Loc) (ls : Array Slot), fX7_tryOn_l n (fX7_cnt S) R = some (u1, u2) → va_P (dC, dI) vwCl (fl [(w_X7 ad (b1) cs en S), (w_X5 ad (b2) cs R)]) H → va_D A (fl [(w_X7 ad (b1) cs en S), (w_X5 ad (b2) cs R)]) → va_S A s.heap H locs → lv_has ls 5 [(0, .ref (ad b1)), (1, .ref (ad b2))] → W p l e (headSpec wsX7_tryOn ({ frames := 7, cells := 0, slots := 0, locals := 153 } : Room)).room s m ([.ref (ad b1), .ref (ad b2)] : List Value).toArray below meth c H locs 0 0 (MQ below (QV dC dI (tyL cs) A (fl [(w_X7 ad (b1) cs en u1), (w_X5 ad (b2) cs u2)])) ([.ref (ad b1), .ref (ad b2)] : List Value).toArray s 0 0 A) (F0 m 112 ls []) := by
        intro S R H locs ls hR hP hD hS hl
        refine lv_aload_n hx hb dX7_tryOn_112 rfl (lv_at hl 0 rfl) ?_
        refine lv_dup hx hb dX7_tryOn_113 rfl ?_
        refine va_get (D := (dC, dI)) (ci := 6) (v := .int (S 2 1)) (C := RX7) (T := TX7) (N := 9) hx hb hts hinX7 hown hK hP 0 rfl rfl 1 (by decide) hF49 (fun _ h9 => h9) rfl dX7_tryOn_114 ?_
        refine lv_iconst (v := 1) hx hb dX7_tryOn_117 ic_1 ?_
        refine lv_iadd hx hb dX7_tryOn_118 ?_
        refine va_put (D := (dC, dI)) (ci := 6) (v := .int (S 2 1 + 1)) (ty := .int) (C := RX7) (T := TX7) (N := 9) hx hb hts hinX7 tyX7 tyX7_ok nmX7 hown hK hP hD hS 0 rfl rfl 1 (by decide) hF49 (fun _ h9 => h9) rfl (by decide +kernel) rfl rfl (Nat.le_of_ble_eq_true rfl) dX7_tryOn_119 (fun H locs hP' hD' hS' => ?_)
        replace hP : va_P (dC, dI) vwCl (fl [(w_X7 ad (b1) cs en (fX7_cnt S)), (w_X5 ad (b2) cs R)]) H := hP'
        replace hD : va_D A (fl [(w_X7 ad (b1) cs en (fX7_cnt S)), (w_X5 ad (b2) cs R)]) := hD'
        replace hS := hS'
        clear hP' hD' hS'
        refine lv_goto (tgt := 15) hx hb dX7_tryOn_122 (by decide) ?_
        exact ih (fX7_cnt S) R H locs ls hR hP hD hS (lv_sub hl [0, 1] rfl)
      have hN : ∀ (S : T2) (R : T3) (st an : Int32) (H : Heap) (locs : List Loc) (ls : Array Slot), fX7_tryOn_l n (fX7_cnt (fX7_flt S st 1 an)) R = some (u1, u2) → va_P (dC, dI) vwCl (fl [(w_X7 ad (b1) cs en S), (w_X5 ad (b2) cs R)]) H → va_D A (fl [(w_X7 ad (b1) cs en S), (w_X5 ad (b2) cs R)]) → va_S A s.heap H locs → lv_has ls 5 [(0, .ref (ad b1)), (1, .ref (ad b2)), (2, .int st), (3, .null), (4, .int an)] → W p l e (headSpec wsX7_tryOn ({ frames := 7, cells := 0, slots := 0, locals := 153 } : Room)).room s m ([.ref (ad b1), .ref (ad b2)] : List Value).toArray below meth c H locs 0 0 (MQ below (QV dC dI (tyL cs) A (fl [(w_X7 ad (b1) cs en u1), (w_X5 ad (b2) cs u2)])) ([.ref (ad b1), .ref (ad b2)] : List Value).toArray s 0 0 A) (F0 m 88 ls []) := by
        intro S R st an H locs ls hR hP hD hS hl
        refine lv_aload_n hx hb dX7_tryOn_88 rfl (lv_at hl 0 rfl) ?_
        refine lv_iload_n hx hb dX7_tryOn_89 rfl (lv_at hl 2 rfl) ?_
        refine va_put (D := (dC, dI)) (ci := 6) (v := .int st) (ty := .int) (C := RX7) (T := TX7) (N := 9) hx hb hts hinX7 tyX7 tyX7_ok nmX7 hown hK hP hD hS 0 rfl rfl 2 (by decide) hF11 (fun _ h9 => h9) rfl (by decide +kernel) rfl rfl (Nat.le_of_ble_eq_true rfl) dX7_tryOn_90 (fun H locs hP' hD' hS' => ?_)
        replace hP : va_P (dC, dI) vwCl (fl [(w_X7 ad (b1) cs en (sU S 2 (sU (S 2) 2 st))), (w_X5 ad (b2) cs R)]) H := hP'
        replace hD : va_D A (fl [(w_X7 ad (b1) cs en (sU S 2 (sU (S 2) 2 st))), (w_X5 ad (b2) cs R)]) := hD'
        replace hS := hS'
        clear hP' hD' hS'
        refine lv_aload_n hx hb dX7_tryOn_93 rfl (lv_at hl 0 rfl) ?_
        refine lv_aload_nN hx hb dX7_tryOn_94 rfl (lv_at hl 3 rfl) ?_
        refine lv_ifnonnullN hx hb dX7_tryOn_95 ?_
        refine lv_iconst (v := 1) hx hb dX7_tryOn_98 ic_1 ?_
        refine lv_goto (tgt := 103) hx hb dX7_tryOn_99 (by decide) ?_
        refine va_put (D := (dC, dI)) (ci := 6) (v := .int (1 : Int32)) (ty := .int) (C := RX7) (T := TX7) (N := 9) hx hb hts hinX7 tyX7 tyX7_ok nmX7 hown hK hP hD hS 0 rfl rfl 3 (by decide) hF40 (fun _ h9 => h9) rfl (by decide +kernel) rfl rfl (Nat.le_of_ble_eq_true rfl) dX7_tryOn_103 (fun H locs hP' hD' hS' => ?_)
        replace hP : va_P (dC, dI) vwCl (fl [(w_X7 ad (b1) cs en (sU (sU S 2 (sU (S 2) 2 st)) 2 (sU ((sU S 2 (sU (S 2) 2 st)) 2) 3 1))), (w_X5 ad (b2) cs R)]) H := hP'
        replace hD : va_D A (fl [(w_X7 ad (b1) cs en (sU (sU S 2 (sU (S 2) 2 st)) 2 (sU ((sU S 2 (sU (S 2) 2 st)) 2) 3 1))), (w_X5 ad (b2) cs R)]) := hD'
        replace hS := hS'
        clear hP' hD' hS'
        refine lv_aload_n hx hb dX7_tryOn_106 rfl (lv_at hl 0 rfl) ?_
        refine lv_iload hx hb dX7_tryOn_107 (lv_at hl 4 rfl) ?_
        refine va_put (D := (dC, dI)) (ci := 6) (v := .int an) (ty := .int) (C := RX7) (T := TX7) (N := 9) hx hb hts hinX7 tyX7 tyX7_ok nmX7 hown hK hP hD hS 0 rfl rfl 4 (by decide) hF43 (fun _ h9 => h9) rfl (by decide +kernel) rfl rfl (Nat.le_of_ble_eq_true rfl) dX7_tryOn_109 (fun H locs hP' hD' hS' => ?_)
        replace hP : va_P (dC, dI) vwCl (fl [(w_X7 ad (b1) cs en (fX7_flt S st 1 an)), (w_X5 ad (b2) cs R)]) H := hP'
        replace hD : va_D A (fl [(w_X7 ad (b1) cs en (fX7_flt S st 1 an)), (w_X5 ad (b2) cs R)]) := hD'
        replace hS := hS'
        clear hP' hD' hS'
        exact hT _ R H locs ls hR hP hD hS (lv_sub hl [0, 1] rfl)
      have hO : ∀ (qv : Nat) (S : T2) (R : T3) (st an : Int32) (H : Heap) (locs : List Loc) (ls : Array Slot), fX7_tryOn_l n (fX7_cnt (fX7_flt S st 2 an)) R = some (u1, u2) → va_P (dC, dI) vwCl (fl [(w_X7 ad (b1) cs en S), (w_X5 ad (b2) cs R)]) H → va_D A (fl [(w_X7 ad (b1) cs en S), (w_X5 ad (b2) cs R)]) → va_S A s.heap H locs → lv_has ls 5 [(0, .ref (ad b1)), (1, .ref (ad b2)), (2, .int st), (3, .ref qv), (4, .int an)] → W p l e (headSpec wsX7_tryOn ({ frames := 7, cells := 0, slots := 0, locals := 153 } : Room)).room s m ([.ref (ad b1), .ref (ad b2)] : List Value).toArray below meth c H locs 0 0 (MQ below (QV dC dI (tyL cs) A (fl [(w_X7 ad (b1) cs en u1), (w_X5 ad (b2) cs u2)])) ([.ref (ad b1), .ref (ad b2)] : List Value).toArray s 0 0 A) (F0 m 88 ls []) := by
        intro qv S R st an H locs ls hR hP hD hS hl
        refine lv_aload_n hx hb dX7_tryOn_88 rfl (lv_at hl 0 rfl) ?_
        refine lv_iload_n hx hb dX7_tryOn_89 rfl (lv_at hl 2 rfl) ?_
        refine va_put (D := (dC, dI)) (ci := 6) (v := .int st) (ty := .int) (C := RX7) (T := TX7) (N := 9) hx hb hts hinX7 tyX7 tyX7_ok nmX7 hown hK hP hD hS 0 rfl rfl 2 (by decide) hF11 (fun _ h9 => h9) rfl (by decide +kernel) rfl rfl (Nat.le_of_ble_eq_true rfl) dX7_tryOn_90 (fun H locs hP' hD' hS' => ?_)
        replace hP : va_P (dC, dI) vwCl (fl [(w_X7 ad (b1) cs en (sU S 2 (sU (S 2) 2 st))), (w_X5 ad (b2) cs R)]) H := hP'
        replace hD : va_D A (fl [(w_X7 ad (b1) cs en (sU S 2 (sU (S 2) 2 st))), (w_X5 ad (b2) cs R)]) := hD'
        replace hS := hS'
        clear hP' hD' hS'
        refine lv_aload_n hx hb dX7_tryOn_93 rfl (lv_at hl 0 rfl) ?_
        refine lv_aload_n hx hb dX7_tryOn_94 rfl (lv_at hl 3 rfl) ?_
        refine lv_ifnonnull (tgt := 102) hx hb dX7_tryOn_95 (by decide) ?_
        refine lv_iconst (v := 2) hx hb dX7_tryOn_102 ic_2 ?_
        refine va_put (D := (dC, dI)) (ci := 6) (v := .int (2 : Int32)) (ty := .int) (C := RX7) (T := TX7) (N := 9) hx hb hts hinX7 tyX7 tyX7_ok nmX7 hown hK hP hD hS 0 rfl rfl 3 (by decide) hF40 (fun _ h9 => h9) rfl (by decide +kernel) rfl rfl (Nat.le_of_ble_eq_true rfl) dX7_tryOn_103 (fun H locs hP' hD' hS' => ?_)
        replace hP : va_P (dC, dI) vwCl (fl [(w_X7 ad (b1) cs en (sU (sU S 2 (sU (S 2) 2 st)) 2 (sU ((sU S 2 (sU (S 2) 2 st)) 2) 3 2))), (w_X5 ad (b2) cs R)]) H := hP'
        replace hD : va_D A (fl [(w_X7 ad (b1) cs en (sU (sU S 2 (sU (S 2) 2 st)) 2 (sU ((sU S 2 (sU (S 2) 2 st)) 2) 3 2))), (w_X5 ad (b2) cs R)]) := hD'
        replace hS := hS'
        clear hP' hD' hS'
        refine lv_aload_n hx hb dX7_tryOn_106 rfl (lv_at hl 0 rfl) ?_
        refine lv_iload hx hb dX7_tryOn_107 (lv_at hl 4 rfl) ?_
        refine va_put (D := (dC, dI)) (ci := 6) (v := .int an) (ty := .int) (C := RX7) (T := TX7) (N := 9) hx hb hts hinX7 tyX7 tyX7_ok nmX7 hown hK hP hD hS 0 rfl rfl 4 (by decide) hF43 (fun _ h9 => h9) rfl (by decide +kernel) rfl rfl (Nat.le_of_ble_eq_true rfl) dX7_tryOn_109 (fun H locs hP' hD' hS' => ?_)
        replace hP : va_P (dC, dI) vwCl (fl [(w_X7 ad (b1) cs en (fX7_flt S st 2 an)), (w_X5 ad (b2) cs R)]) H := hP'
        replace hD : va_D A (fl [(w_X7 ad (b1) cs en (fX7_flt S st 2 an)), (w_X5 ad (b2) cs R)]) := hD'
        replace hS := hS'
        clear hP' hD' hS'
        exact hT _ R H locs ls hR hP hD hS (lv_sub hl [0, 1] rfl)
      rw [fX7_tryOn_l] at hR
      refine lv_aload_n hx hb dX7_tryOn_15 rfl (lv_at hl 0 rfl) ?_
      refine va_get (D := (dC, dI)) (ci := 6) (v := .int (S 2 1)) (C := RX7) (T := TX7) (N := 9) hx hb hts hinX7 hown hK hP 0 rfl rfl 1 (by decide) hF49 (fun _ h9 => h9) rfl dX7_tryOn_16 ?_
      refine lv_bipush (v := 60) hx hb dX7_tryOn_19 bp_60 ?_
      refine lv_icmp_ge (tgt := 125) hx hb dX7_tryOn_21 (by decide) (fun c21 => ?_) (fun c21 => ?_)
      · replace hR := it_t hR c21
        obtain ⟨e1, e2⟩ := Prod.mk.inj (Option.some.inj hR)
        subst e1
        subst e2
        exact W.vret hx hb hr (fun t ht hW => ⟨⟨(), rfl, trivial, by rw [ht]; exact hP, va_K.moved hW.alike hK, hD⟩, hS.F ht⟩) hS.2.2 dX7_tryOn_125
      replace hR := it_f hR c21
      refine lv_aload_n hx hb dX7_tryOn_24 rfl (lv_at hl 0 rfl) ?_
      refine va_get (D := (dC, dI)) (ci := 6) (v := .int (S 2 5)) (C := RX7) (T := TX7) (N := 9) hx hb hts hinX7 hown hK hP 0 rfl rfl 8 (by decide) hF46 (fun _ h9 => h9) rfl dX7_tryOn_25 ?_
      refine lv_aload_n hx hb dX7_tryOn_28 rfl (lv_at hl 0 rfl) ?_
      refine va_get (D := (dC, dI)) (ci := 6) (v := .int (S 2 0)) (C := RX7) (T := TX7) (N := 9) hx hb hts hinX7 hown hK hP 0 rfl rfl 0 (by decide) hF33 (fun _ h9 => h9) rfl dX7_tryOn_29 ?_
      refine lv_icmp_ge (tgt := 125) hx hb dX7_tryOn_32 (by decide) (fun c32 => ?_) (fun c32 => ?_)
      · replace hR := it_t hR c32
        obtain ⟨e1, e2⟩ := Prod.mk.inj (Option.some.inj hR)
        subst e1
        subst e2
        exact W.vret hx hb hr (fun t ht hW => ⟨⟨(), rfl, trivial, by rw [ht]; exact hP, va_K.moved hW.alike hK, hD⟩, hS.F ht⟩) hS.2.2 dX7_tryOn_125
      replace hR := it_f hR c32
      obtain ⟨q, gq, hR⟩ := bd_e hR
      refine lv_aload_n hx hb dX7_tryOn_35 rfl (lv_at hl 0 rfl) ?_
      refine cl_Vi (As := []) (rest := []) (L := [(w_X7 ad (b1) cs en S), (w_X5 ad (b2) cs R)]) (L' := [(w_X7 ad (b1) cs en S), (w_X5 ad (b2) cs R)]) (Wc := [(w_X7 ad (b1) cs en S)]) (Wc' := [(w_X7 ad (b1) cs en S)]) (is := [0]) (js := [1]) ⟨hx, hb, hml, hown, hts⟩ (k_X7_hasFault l dC dI cs ad en b1 H.size S q gq) (cwV 0 hts gX7_tryOn_X7_hasFault rfl rfl rfl cd_X7_hasFault ⟨Nat.le_of_ble_eq_true rfl, Nat.le_of_ble_eq_true rfl⟩) hK hP hD hS hA ⟨rfl, rfl, rfl, rfl, rfl, rfl⟩ (jn_nd (L := [(w_X7 ad (b1) cs en S), (w_X5 ad (b2) cs R)]) (is := [0]) hD rfl rfl) 0 6 rfl rfl rfl rfl rfl hl.1 (Nat.le_of_ble_eq_true rfl) dX7_tryOn_36 (fun H1 locs1 hP' hD' hS' => ?_)
      replace hP : va_P (dC, dI) vwCl (fl [(w_X7 ad (b1) cs en S), (w_X5 ad (b2) cs R)]) H1 := hP'
      replace hD : va_D A (fl [(w_X7 ad (b1) cs en S), (w_X5 ad (b2) cs R)]) := hD'
      replace hS := hS'
      clear hP' hD' hS'
      refine lv_if_ne (tgt := 125) hx hb dX7_tryOn_39 (by decide) (fun c39 => ?_) (fun c39 => ?_)
      · replace hR := it_f hR c39
        obtain ⟨e1, e2⟩ := Prod.mk.inj (Option.some.inj hR)
        subst e1
        subst e2
        exact W.vret hx hb hr (fun t ht hW => ⟨⟨(), rfl, trivial, by rw [ht]; exact hP, va_K.moved hW.alike hK, hD⟩, hS.F ht⟩) hS.2.2 dX7_tryOn_125
      replace hR := it_t hR c39
      refine lv_aload_n hx hb dX7_tryOn_42 rfl (lv_at hl 0 rfl) ?_
      refine va_get (D := (dC, dI)) (ci := 6) (v := .int (S 2 5)) (C := RX7) (T := TX7) (N := 9) hx hb hts hinX7 hown hK hP 0 rfl rfl 8 (by decide) hF46 (fun _ h9 => h9) rfl dX7_tryOn_43 ?_
      refine lv_istore_n (lv' := [(2, .int (S 2 5)), (0, .ref (ad b1)), (1, .ref (ad b2))]) hx hb dX7_tryOn_46 rfl hl (Nat.le_of_ble_eq_true rfl) rfl (fun ls hl => ?_)
      obtain ⟨⟨r2, S2⟩, g2, hR⟩ := bd_e hR
      refine lv_aload_n hx hb dX7_tryOn_47 rfl (lv_at hl 1 rfl) ?_
      refine cl_VeE (C := RX7) (As := []) (rest := []) (L := [(w_X7 ad (b1) cs en S), (w_X5 ad (b2) cs R)]) (L' := [(w_X7 ad (b1) cs en S2), (w_X5 ad (b2) cs R)]) (Wc := [(w_X7 ad (b1) cs en S)]) (Wc' := [(w_X7 ad (b1) cs en S2)]) (is := [0]) (js := [1]) ⟨hx, hb, hml, hown, hts⟩ (k_X7_readCommand l dC dI cs ad aK aV en tF tS b1 H1.size S r2 S2 g2) (cwV 0 hts gX7_tryOn_X7_readCommand rfl rfl rfl cd_X7_readCommand ⟨Nat.le_of_ble_eq_true rfl, Nat.le_of_ble_eq_true rfl⟩) hK hP hD hS hA hE ⟨rfl, rfl, rfl, rfl, rfl, rfl⟩ (jn_nd (L := [(w_X7 ad (b1) cs en S), (w_X5 ad (b2) cs R)]) (is := [0]) hD rfl rfl) (va_recv hK hP (show vwCl[6]? = some _ from rfl) (show (fl [(w_X7 ad (b1) cs en S), (w_X5 ad (b2) cs R)])[0]? = some (_, .inr (6, _)) from rfl)) rfl rfl hl.1 (Nat.le_of_ble_eq_true rfl) dX7_tryOn_48 (fun H2 locs2 hP' hD' hS' => ?_)
      replace hP : va_P (dC, dI) vwCl (fl [(w_X7 ad (b1) cs en S2), (w_X5 ad (b2) cs R)]) H2 := hP'
      replace hD : va_D A (fl [(w_X7 ad (b1) cs en S2), (w_X5 ad (b2) cs R)]) := hD'
      replace hS := hS'
      clear hP' hD' hS'
      cases r2 with
      | none =>
        have hR : fX7_tryOn_l n (fX7_cnt (fX7_flt S2 (S 2 5) 1 0)) R = some (u1, u2) := hR
        refine lv_astore_nN (lv' := [(3, .null), (2, .int (S 2 5)), (0, .ref (ad b1)), (1, .ref (ad b2))]) hx hb dX7_tryOn_51 rfl hl (Nat.le_of_ble_eq_true rfl) rfl (fun ls hl => ?_)
        refine lv_aload_nN hx hb dX7_tryOn_52 rfl (lv_at hl 0 rfl) ?_
        refine lv_ifnonnullN hx hb dX7_tryOn_53 ?_
        refine lv_iconst (v := 0) hx hb dX7_tryOn_56 ic_0 ?_
        refine lv_goto (tgt := 77) hx hb dX7_tryOn_57 (by decide) ?_
        refine lv_istore (lv' := [(4, .int (0 : Int32)), (3, .null), (2, .int (S 2 5)), (0, .ref (ad b1)), (1, .ref (ad b2))]) hx hb dX7_tryOn_77 hl (Nat.le_of_ble_eq_true rfl) rfl (fun ls hl => ?_)
        refine lv_aload_nN hx hb dX7_tryOn_79 rfl (lv_at hl 1 rfl) ?_
        refine lv_ifnullN (tgt := 88) hx hb dX7_tryOn_80 (by decide) ?_
        exact hN S2 R (S 2 5) 0 H2 _ ls hR hP hD hS (lv_sub hl [3, 4, 2, 1, 0] rfl)
      | some v =>
        obtain ⟨⟨r3, R3⟩, g3, hR⟩ := bd_e (show bd (fX9_doOn v R (S2 1 0) (S2 1 1)) _ = _ from hR)
        have hR : (if r3 < 0 then fX7_tryOn_l n (fX7_cnt (fX7_flt S2 (S 2 5) 2 r3)) R3 else fX7_tryOn_l n (fX7_cnt S2) R3) = some (u1, u2) := hR
        have hv : v < 10 := cmd_lt g2
        refine lv_astore_n (lv' := [(3, .ref (en v)), (2, .int (S 2 5)), (0, .ref (ad b1)), (1, .ref (ad b2))]) hx hb dX7_tryOn_51 rfl hl (Nat.le_of_ble_eq_true rfl) rfl (fun ls hl => ?_)
        refine lv_aload_n hx hb dX7_tryOn_52 rfl (lv_at hl 0 rfl) ?_
        refine lv_ifnonnull (tgt := 60) hx hb dX7_tryOn_53 (by decide) ?_
        refine lv_aload_n hx hb dX7_tryOn_60 rfl (lv_at hl 0 rfl) ?_
        refine lv_aload_n hx hb dX7_tryOn_61 rfl (lv_at hl 3 rfl) ?_
        refine lv_aload_n hx hb dX7_tryOn_62 rfl (lv_at hl 2 rfl) ?_
        refine va_get (D := (dC, dI)) (ci := 6) (v := .ref (ad (b1 + 3))) (C := RX7) (T := TX7) (N := 9) hx hb hts hinX7 hown hK hP 0 rfl rfl 7 (by decide) hF29 (fun _ h9 => h9) rfl dX7_tryOn_63 ?_
        refine lv_iconst (v := 0) hx hb dX7_tryOn_66 ic_0 ?_
        refine va_iald hx hb hK hP 3 0 rfl rfl vi_0_2 dX7_tryOn_67 ?_
        refine lv_aload_n hx hb dX7_tryOn_68 rfl (lv_at hl 2 rfl) ?_
        refine va_get (D := (dC, dI)) (ci := 6) (v := .ref (ad (b1 + 3))) (C := RX7) (T := TX7) (N := 9) hx hb hts hinX7 hown hK hP 0 rfl rfl 7 (by decide) hF29 (fun _ h9 => h9) rfl dX7_tryOn_69 ?_
        refine lv_iconst (v := 1) hx hb dX7_tryOn_72 ic_1 ?_
        refine va_iald hx hb hK hP 3 0 rfl rfl vi_1_2 dX7_tryOn_73 ?_
        rw [ct0, ct1]
        refine cl_ViE (C := RX9) (As := [.ref (ad b2), .int (S2 1 0), .int (S2 1 1)]) (rest := []) (L := [(w_X7 ad (b1) cs en S2), (w_X5 ad (b2) cs R)]) (L' := [(w_X7 ad (b1) cs en S2), (w_X5 ad (b2) cs R3)]) (Wc := [(w_X5 ad (b2) cs R)]) (Wc' := [(w_X5 ad (b2) cs R3)]) (is := [1]) (js := [0]) ⟨hx, hb, hml, hown, hts⟩ (k_X9_doOn l dC dI cs ad aK aV en tF tS b2 v H2.size hv R (S2 1 0) (S2 1 1) r3 R3 g3) (cwV 3 hts gX7_tryOn_X9_doOn rfl rfl rfl cd_X9_doOn ⟨Nat.le_of_ble_eq_true rfl, Nat.le_of_ble_eq_true rfl⟩) hK hP hD hS hA hE ⟨rfl, rfl, rfl, rfl, rfl, rfl⟩ (jn_nd (L := [(w_X7 ad (b1) cs en S2), (w_X5 ad (b2) cs R)]) (is := [1]) hD rfl rfl) (by obtain ⟨cell, h1, h2, h3, -⟩ := (hE.2.2.2.1 v hv).kept hS.2.1; exact ⟨cell, h1, h2, h3⟩) rfl rfl hl.1 (Nat.le_of_ble_eq_true rfl) dX7_tryOn_74 (fun H3 locs3 hP' hD' hS' => ?_)
        replace hP : va_P (dC, dI) vwCl (fl [(w_X7 ad (b1) cs en S2), (w_X5 ad (b2) cs R3)]) H3 := hP'
        replace hD : va_D A (fl [(w_X7 ad (b1) cs en S2), (w_X5 ad (b2) cs R3)]) := hD'
        replace hS := hS'
        clear hP' hD' hS'
        refine lv_istore (lv' := [(4, .int r3), (3, .ref (en v)), (2, .int (S 2 5)), (0, .ref (ad b1)), (1, .ref (ad b2))]) hx hb dX7_tryOn_77 hl (Nat.le_of_ble_eq_true rfl) rfl (fun ls hl => ?_)
        refine lv_aload_n hx hb dX7_tryOn_79 rfl (lv_at hl 1 rfl) ?_
        refine lv_ifnull hx hb dX7_tryOn_80 ?_
        refine lv_iload hx hb dX7_tryOn_83 (lv_at hl 0 rfl) ?_
        refine lv_if_ge (tgt := 112) hx hb dX7_tryOn_85 (by decide) (fun c85 => ?_) (fun c85 => ?_)
        · exact hT S2 R3 H3 _ ls (it_f hR (Int32.not_lt.mpr c85)) hP hD hS (lv_sub hl [3, 4] rfl)
        · exact hO (en v) S2 R3 (S 2 5) r3 H3 _ ls (it_t hR (Int32.not_le.mp c85)) hP hD hS (lv_sub hl [3, 4, 2, 1, 0] rfl)
  rw [fX7_tryOn] at hR
  refine lv_aload_n hx hb dX7_tryOn_0 rfl (lv_at hl 0 rfl) ?_
  refine lv_iconst (v := (-1)) hx hb dX7_tryOn_1 ic_m1 ?_
  refine va_put (D := (dC, dI)) (ci := 6) (v := .int (-1)) (ty := .int) (C := RX7) (T := TX7) (N := 9) hx hb hts hinX7 tyX7 tyX7_ok nmX7 hown hK hP hD hS 0 rfl rfl 2 (by decide) hF11 (fun _ h9 => h9) rfl (by decide +kernel) rfl rfl (Nat.le_of_ble_eq_true rfl) dX7_tryOn_2 (fun H locs hP' hD' hS' => ?_)
  replace hP : va_P (dC, dI) vwCl (fl [(w_X7 ad (b1) cs en (sU S1 2 (sU (S1 2) 2 (-1)))), (w_X5 ad (b2) cs S2)]) H := hP'
  replace hD : va_D A (fl [(w_X7 ad (b1) cs en (sU S1 2 (sU (S1 2) 2 (-1)))), (w_X5 ad (b2) cs S2)]) := hD'
  replace hS := hS'
  clear hP' hD' hS'
  refine lv_aload_n hx hb dX7_tryOn_5 rfl (lv_at hl 0 rfl) ?_
  refine lv_iconst (v := 0) hx hb dX7_tryOn_6 ic_0 ?_
  refine va_put (D := (dC, dI)) (ci := 6) (v := .int (0 : Int32)) (ty := .int) (C := RX7) (T := TX7) (N := 9) hx hb hts hinX7 tyX7 tyX7_ok nmX7 hown hK hP hD hS 0 rfl rfl 8 (by decide) hF46 (fun _ h9 => h9) rfl (by decide +kernel) rfl rfl (Nat.le_of_ble_eq_true rfl) dX7_tryOn_7 (fun H locs hP' hD' hS' => ?_)
  replace hP : va_P (dC, dI) vwCl (fl [(w_X7 ad (b1) cs en (sU (sU S1 2 (sU (S1 2) 2 (-1))) 2 (sU ((sU S1 2 (sU (S1 2) 2 (-1))) 2) 5 0))), (w_X5 ad (b2) cs S2)]) H := hP'
  replace hD : va_D A (fl [(w_X7 ad (b1) cs en (sU (sU S1 2 (sU (S1 2) 2 (-1))) 2 (sU ((sU S1 2 (sU (S1 2) 2 (-1))) 2) 5 0))), (w_X5 ad (b2) cs S2)]) := hD'
  replace hS := hS'
  clear hP' hD' hS'
  refine lv_aload_n hx hb dX7_tryOn_10 rfl (lv_at hl 0 rfl) ?_
  refine lv_iconst (v := 0) hx hb dX7_tryOn_11 ic_0 ?_
  refine va_put (D := (dC, dI)) (ci := 6) (v := .int (0 : Int32)) (ty := .int) (C := RX7) (T := TX7) (N := 9) hx hb hts hinX7 tyX7 tyX7_ok nmX7 hown hK hP hD hS 0 rfl rfl 1 (by decide) hF49 (fun _ h9 => h9) rfl (by decide +kernel) rfl rfl (Nat.le_of_ble_eq_true rfl) dX7_tryOn_12 (fun H locs hP' hD' hS' => ?_)
  replace hP : va_P (dC, dI) vwCl (fl [(w_X7 ad (b1) cs en (fX7_start S1)), (w_X5 ad (b2) cs S2)]) H := hP'
  replace hD : va_D A (fl [(w_X7 ad (b1) cs en (fX7_start S1)), (w_X5 ad (b2) cs S2)]) := hD'
  replace hS := hS'
  clear hP' hD' hS'
  exact hB fuel (fX7_start S1) S2 H locs ls hR hP hD hS (lv_sub hl [0, 1] rfl)
