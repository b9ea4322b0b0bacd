/-! CMD: a command with its numbers -/
section CLG
variable {p : Program} {l : Launch} {e : Env} {R : Room} {s : State} {m : MethodId} {args : Array Value} {below : List Frame} {meth : Method} {c : Code} {H : Heap} {locs : List Loc} {Q : State → Prop}
variable {cc bytes : ByteArray} {pc nL index maxL n : Nat} {ls : Array Slot} {rest st0 As : List Value} {Ts ws : List Cond} {own C : String} {y : MethodName} {ret : Option FieldType} {rm : Room} {dC : Nat → ClassId} {dI : Nat → Nat → Nat} {tys : List (ClassId × FieldType)} {is js : List Nat} {L L' Wc Wc' : List va_W} {A0 : Nat → Prop} {b : Addr} {r : Option Nat} {aK aV en : Nat → Nat} {tF tS : Nat}
theorem cl_VeE (S0 : CallFix p m c cc nL s args Ts own)
    (hM : Met l y ws rm (va_Pc (.ref b :: As) (pE dC dI tys aK aV en tF tS Wc.flatten H.size)) (QE dC dI tys (va_A Wc.flatten H.size) Wc'.flatten en r) 0 0 (va_A Wc.flatten H.size))
    (cw : CallW R s args own C index y bytes maxL ret ws rm 0 0 n) (hK : va_K (dC, dI) vwCl tys s) (hP : va_P (dC, dI) vwCl L.flatten H) (hD : va_D A0 L.flatten) (hS : va_S A0 s.heap H locs) (hA : ∀ q, s.heap.size ≤ q → A0 q) (hE : EX aK aV en tF tS A0 s s.heap)
    (j : JN is js L L' Wc Wc') (nd : va_D (fun _ => True) Wc.flatten) (hrec : ∃ cell : Cell, H[b]? = some cell ∧ cell.vm.isStatics = false ∧ s.vm.findClass C = some cell.cls)
    (hst : st0 = As.reverse ++ .ref b :: rest) (hn : As.length = n) (hsize : ls.size = nL) (hr : (rest.map fun v => v.category).sum ≤ 8) (hdg : decode cc pc = .ok (.invokevirtual index, 3))
    (kk : ∀ (H1 : Heap) (locs1 : List Loc), va_P (dC, dI) vwCl L'.flatten H1 → va_D A0 L'.flatten → va_S A0 s.heap H1 locs1 → W p l e R s m args below meth c H1 locs1 0 0 Q (F0 m (pc + 3) ls (va_re en r :: rest))) : W p l e R s m args below meth c H locs 0 0 Q (F0 m pc ls st0) := by
  have hF := jn_free j.1 hD hS hA
  refine va_calle (va_runV (rest := rest) S0 hM cw ⟨fb_pE, hrec, fun U hU hW => ⟨rfl, ⟨by rw [hU], by rw [hU]; exact jn_P j.1 hP, va_K.moved hW.alike hK, nd⟩, by rw [hU]; exact ((hE.kept hS.2.1).moved hW.alike).narrow hF⟩⟩ rfl hn hsize hst (lv_room hr) hdg ⟨Nat.zero_le _, Nat.zero_le _⟩) hS (fun q _ h => hF q h) hF (fun r1 u t H1 locs1 ht hvm hw hB hz1 hk1 hS1 => ?_)
  obtain ⟨hP1, -, -⟩ := hB
  rw [ht] at hP1
  obtain ⟨a1, a2⟩ := jn j hP hD hk1 hP1
  subst hw
  exact kk H1 locs1 a1 a2 hS1
end CLG
theorem cd_X7_readVerb : yX7_readVerb.cls = RX7 ∧ yX7_readVerb.cls ≠ "java/lang/invoke/MethodHandle" ∧ yX7_readVerb.cls ≠ "java/lang/invoke/VarHandle" ∧ (parseMethodDescriptor yX7_readVerb.desc).map (fun d => d.parameters.length) = some 0 := by decide +kernel
theorem verb_lt {S1 : T2} {v : Nat} {u : T2} : ∀ (n j : Nat), j ≤ 10 → fX7_readVerb_l S1 n (nI j) = some (some v, u) → v < 10 := by
  intro n
  induction n with
  | zero => intro j hj h; cases h
  | succ n ih =>
    intro j hj h
    rw [fX7_readVerb_l] at h
    by_cases e : j = 10
    · subst e
      rw [if_pos (show (10 : Int32) ≤ nI 10 by decide)] at h
      cases h
    · rw [if_neg (show ¬ (10 : Int32) ≤ nI j from nI_ge (b := 10) (by omega) (by decide)), cl_nI (by omega)] at h
      obtain ⟨q, -, h⟩ := bd_e h
      by_cases c : q = 0
      · rw [if_pos c, nI_1] at h
        exact ih (j + 1) (by omega) h
      · rw [if_neg c] at h
        obtain ⟨h1, -⟩ := Prod.mk.inj (Option.some.inj h)
        have := Option.some.inj h1
        omega
set_option maxHeartbeats 8000000 in
set_option maxRecDepth 100000 in
theorem k_X7_readCommand (l : Launch) (dC : Nat → ClassId) (dI : Nat → Nat → Nat) (cs : Nat → ClassId) (ad : Nat → Nat) (aK aV en : Nat → Nat) (tF tS b1 sz : Nat) (S1 : T2) (r : Option Nat) (u1 : T2) (hR : fX7_readCommand S1 = some (r, u1)) : Met l yX7_readCommand wsX7_readCommand ({ frames := 6, cells := 0, slots := 0, locals := 131 } : Room) (va_Pc [.ref (ad b1)] (pE dC dI (tyL cs) aK aV en tF tS (fl [(w_X7 ad (b1) cs en S1)]) sz)) (QE dC dI (tyL cs) (va_A (fl [(w_X7 ad (b1) cs en S1)]) sz) (fl [(w_X7 ad (b1) cs en u1)]) en r) 0 0 (va_A (fl [(w_X7 ad (b1) cs en S1)]) sz) := by
  refine mt_E (own := RX7) (cc := cX7_readCommand) (maxL := 3) (ret := (some (.object "DockedBikes$Verb"))) (Qc := fun A => QE dC dI (tyL cs) A (fl [(w_X7 ad (b1) cs en u1)]) en r) rfl (by decide) rfl (Nat.le_of_ble_eq_true rfl) (fun p e s m below meth c A ls hsz hx hb hr hts hown hlocks hml hA hK hP hD hS hl hE => ?_)
  subst hsz
  have hl : lv_has ls 3 [(0, .ref (ad b1))] := hl
  have hF63 := hts (.fieldLink RX7 63 "DockedBikes$Verb" "numbers" "I") (List.mem_of_getElem? (i := 1) rfl)
  have hN : ∀ (H : Heap) (locs : List Loc) (ls : Array Slot) (z : Value), r = none → va_P (dC, dI) vwCl (fl [(w_X7 ad (b1) cs en u1)]) H → va_D A (fl [(w_X7 ad (b1) cs en u1)]) → va_S A s.heap H locs → lv_has ls 3 [(0, .ref (ad b1))] → W p l e (headSpec wsX7_readCommand ({ frames := 6, cells := 0, slots := 0, locals := 131 } : Room)).room s m ([.ref (ad b1)] : List Value).toArray below meth c H locs 0 0 (MQ below (QE dC dI (tyL cs) A (fl [(w_X7 ad (b1) cs en u1)]) en r) ([.ref (ad b1)] : List Value).toArray s 0 0 A) (F0 m 33 ls []) := by
    intro H locs ls z hrn hP hD hS hl
    refine lv_iconst (v := 0) hx hb dX7_readCommand_33 ic_0 ?_
    refine lv_istore_n (lv' := [(2, .int (0 : Int32)), (0, .ref (ad b1))]) hx hb dX7_readCommand_34 rfl hl (Nat.le_of_ble_eq_true rfl) rfl (fun ls hl => ?_)
    refine lv_iload_n hx hb dX7_readCommand_35 rfl (lv_at hl 0 rfl) ?_
    refine lv_if_eq (tgt := 43) hx hb dX7_readCommand_36 (by decide) (fun c36 => ?_) (fun c36 => absurd rfl c36)
    refine lv_null hx hb dX7_readCommand_43 ?_
    exact W.aret hx hb hr (Or.inl ⟨_, rfl⟩) (Or.inl rfl) (fun t ht hW => ⟨⟨none, (), rfl, hrn.symm, by rw [ht]; exact hP, va_K.moved hW.alike hK, hD⟩, hS.F ht⟩) hS.2.2 dX7_readCommand_44
  rw [fX7_readCommand] at hR
  obtain ⟨⟨r0, S2⟩, g0, hR⟩ := bd_e hR
  refine lv_aload_n hx hb dX7_readCommand_0 rfl (lv_at hl 0 rfl) ?_
  refine cl_VeE (C := RX7) (As := []) (rest := []) (L := [(w_X7 ad (b1) cs en S1)]) (L' := [(w_X7 ad (b1) cs en S2)]) (Wc := [(w_X7 ad (b1) cs en S1)]) (Wc' := [(w_X7 ad (b1) cs en S2)]) (is := [0]) (js := []) ⟨hx, hb, hml, hown, hts⟩ (k_X7_readVerb l dC dI cs ad aK aV en tF tS b1 s.heap.size S1 r0 S2 g0) (cwV 0 hts gX7_readCommand_X7_readVerb rfl rfl rfl cd_X7_readVerb ⟨Nat.le_of_ble_eq_true rfl, Nat.le_of_ble_eq_true rfl⟩) hK hP hD hS hA hE ⟨rfl, rfl, rfl, rfl, rfl, rfl⟩ (jn_nd (L := [(w_X7 ad (b1) cs en S1)]) (is := [0]) hD rfl rfl) (va_recv hK hP (show vwCl[6]? = some _ from rfl) (show (fl [(w_X7 ad (b1) cs en S1)])[0]? = some (_, .inr (6, _)) from rfl)) rfl rfl hl.1 (Nat.le_of_ble_eq_true rfl) dX7_readCommand_1 (fun H1 locs1 hP1 hD1 hS1 => ?_)
  cases r0 with
  | none =>
    obtain ⟨e1, e2⟩ := Prod.mk.inj (Option.some.inj hR)
    have e2 : S2 = u1 := e2
    subst e2
    refine lv_astore_nN (lv' := [(1, .null), (0, .ref (ad b1))]) hx hb dX7_readCommand_4 rfl hl (Nat.le_of_ble_eq_true rfl) rfl (fun ls hl => ?_)
    refine lv_aload_nN hx hb dX7_readCommand_5 rfl (lv_at hl 0 rfl) ?_
    refine lv_ifnullN (tgt := 33) hx hb dX7_readCommand_6 (by decide) ?_
    exact hN H1 _ ls .null e1.symm hP1 hD1 hS1 (lv_sub hl [1] rfl)
  | some v =>
    have hv : v < 10 := verb_lt fuel 0 (by omega) g0
    obtain ⟨⟨q2, S3⟩, g2, hR⟩ := bd_e (show bd (fX7_readNumbers S2 (nI (nn v))) _ = _ from hR)
    refine lv_astore_n (lv' := [(1, .ref (en v)), (0, .ref (ad b1))]) hx hb dX7_readCommand_4 rfl hl (Nat.le_of_ble_eq_true rfl) rfl (fun ls hl => ?_)
    refine lv_aload_n hx hb dX7_readCommand_5 rfl (lv_at hl 0 rfl) ?_
    refine lv_ifnull hx hb dX7_readCommand_6 ?_
    refine lv_aload_n hx hb dX7_readCommand_9 rfl (lv_at hl 1 rfl) ?_
    refine lv_aload_n hx hb dX7_readCommand_10 rfl (lv_at hl 0 rfl) ?_
    refine vk_getf hx hb (hE.2.2.2.2.2.1 v hv) hS1 hown hF63 (fun _ h9 => h9) dX7_readCommand_11 ?_
    refine cl_Vi (As := [.int (nI (nn v))]) (rest := []) (L := [(w_X7 ad (b1) cs en S2)]) (L' := [(w_X7 ad (b1) cs en S3)]) (Wc := [(w_X7 ad (b1) cs en S2)]) (Wc' := [(w_X7 ad (b1) cs en S3)]) (is := [0]) (js := []) ⟨hx, hb, hml, hown, hts⟩ (k_X7_readNumbers l dC dI cs ad en b1 H1.size S2 (nI (nn v)) q2 S3 g2) (cwV 1 hts gX7_readCommand_X7_readNumbers rfl rfl rfl cd_X7_readNumbers ⟨Nat.le_of_ble_eq_true rfl, Nat.le_of_ble_eq_true rfl⟩) hK hP1 hD1 hS1 hA ⟨rfl, rfl, rfl, rfl, rfl, rfl⟩ (jn_nd (L := [(w_X7 ad (b1) cs en S2)]) (is := [0]) hD1 rfl rfl) 0 6 rfl rfl rfl rfl rfl hl.1 (Nat.le_of_ble_eq_true rfl) dX7_readCommand_14 (fun H2 locs2 hP2 hD2 hS2 => ?_)
    refine lv_if_eq (tgt := 33) hx hb dX7_readCommand_17 (by decide) (fun c17 => ?_) (fun c17 => ?_)
    · obtain ⟨e1, e2⟩ := Prod.mk.inj (Option.some.inj (it_t hR c17))
      have e2 : S3 = u1 := e2
      subst e2
      exact hN H2 _ ls .null e1.symm hP2 hD2 hS2 (lv_sub hl [1] rfl)
    replace hR := it_f hR c17
    obtain ⟨⟨q3, S4⟩, g3, hR⟩ := bd_e hR
    refine lv_aload_n hx hb dX7_readCommand_20 rfl (lv_at hl 1 rfl) ?_
    refine lv_bipush (v := 59) hx hb dX7_readCommand_21 (by decide) ?_
    refine cl_Vi (As := [.int 59]) (rest := []) (L := [(w_X7 ad (b1) cs en S3)]) (L' := [(w_X7 ad (b1) cs en S4)]) (Wc := [(w_X7 ad (b1) cs en S3)]) (Wc' := [(w_X7 ad (b1) cs en S4)]) (is := [0]) (js := []) ⟨hx, hb, hml, hown, hts⟩ (k_X7_readSign l dC dI cs ad en b1 H2.size S3 59 q3 S4 g3) (cwV 1 hts gX7_readCommand_X7_readSign rfl rfl rfl cd_X7_readSign ⟨Nat.le_of_ble_eq_true rfl, Nat.le_of_ble_eq_true rfl⟩) hK hP2 hD2 hS2 hA ⟨rfl, rfl, rfl, rfl, rfl, rfl⟩ (jn_nd (L := [(w_X7 ad (b1) cs en S3)]) (is := [0]) hD2 rfl rfl) 0 6 rfl rfl rfl rfl rfl hl.1 (Nat.le_of_ble_eq_true rfl) dX7_readCommand_23 (fun H3 locs3 hP3 hD3 hS3 => ?_)
    refine lv_if_eq (tgt := 33) hx hb dX7_readCommand_26 (by decide) (fun c26 => ?_) (fun c26 => ?_)
    · obtain ⟨e1, e2⟩ := Prod.mk.inj (Option.some.inj (it_t hR c26))
      have e2 : S4 = u1 := e2
      subst e2
      exact hN H3 _ ls .null e1.symm hP3 hD3 hS3 (lv_sub hl [1] rfl)
    obtain ⟨e1, e2⟩ := Prod.mk.inj (Option.some.inj (it_f hR c26))
    have e2 : S4 = u1 := e2
    subst e2
    refine lv_iconst (v := 1) hx hb dX7_readCommand_29 ic_1 ?_
    refine lv_goto (tgt := 34) hx hb dX7_readCommand_30 (by decide) ?_
    refine lv_istore_n (lv' := [(2, .int (1 : Int32)), (1, .ref (en v)), (0, .ref (ad b1))]) hx hb dX7_readCommand_34 rfl hl (Nat.le_of_ble_eq_true rfl) rfl (fun ls hl => ?_)
    refine lv_iload_n hx hb dX7_readCommand_35 rfl (lv_at hl 0 rfl) ?_
    refine lv_if_eq (tgt := 43) hx hb dX7_readCommand_36 (by decide) (fun c36 => absurd c36 ne10) (fun c36 => ?_)
    refine lv_aload_n hx hb dX7_readCommand_39 rfl (lv_at hl 1 rfl) ?_
    refine lv_goto (tgt := 44) hx hb dX7_readCommand_40 (by decide) ?_
    exact W.aret hx hb hr (Or.inl ⟨_, rfl⟩) (Or.inr ⟨_, rfl⟩) (fun t ht hW => ⟨⟨some v, (), rfl, e1, by rw [ht]; exact hP3, va_K.moved hW.alike hK, hD3⟩, hS3.F ht⟩) hS3.2.2 dX7_readCommand_44
