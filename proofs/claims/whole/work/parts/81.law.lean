/-! LAW: its calls -/
section CLL
variable {p : Program} {l : Launch} {e : Env} {R : Room} {s : State} {m : MethodId} {args : Array Value} {below : List Frame} {meth : Method} {c : Code} {H : Heap} {locs : List Loc} {Q : State → Prop} {cells slots : Nat}
variable {cc bytes : ByteArray} {pc nL index maxL n : Nat} {ls : Array Slot} {rest st0 As : List Value} {Ts ws : List Cond} {own C : String} {y : MethodName} {ret : Option FieldType} {rm : Room} {dC : Nat → ClassId} {dI : Nat → Nat → Nat} {tys : List (ClassId × FieldType)} {is js : List Nat} {L L' Wc Wc' : List va_W} {A0 : Nat → Prop} {b : Addr} {r : Int32} {aK aV en : Nat → Nat} {tF tS : Nat}
theorem cl_L (S0 : CallFix p m c cc nL s args Ts own)
    (hM : Met l y ws rm (va_Pc (.ref b :: As) (pW dC dI tys Wc.flatten H.size)) (QI dC dI tys (va_A Wc.flatten H.size) Wc'.flatten r) 0 0 (va_A Wc.flatten H.size))
    (cw : CallW R s args own C index y bytes maxL ret ws rm 0 0 n) (hK : va_K (dC, dI) vwCl tys s) (hP : va_P (dC, dI) vwCl L.flatten H) (hD : va_D A0 L.flatten) (hS : va_S A0 s.heap H locs) (hA : ∀ q, s.heap.size ≤ q → A0 q)
    (j : JN is js L L' Wc Wc') (nd : va_D (fun _ => True) Wc.flatten) (q0 ci : Nat) {q : vw_C} {fs : List Value} (hc : vwCl[ci]? = some q) (hq : q.1 = C) (he : L.flatten[q0]? = some (b, .inr (ci, fs)))
    (hst : st0 = As.reverse ++ .ref b :: rest) (hn : As.length = n) (hsize : ls.size = nL) (hr : (rest.map fun v => v.category).sum ≤ 8) (hdg : decode cc pc = .ok (.invokevirtual index, 3)) (hf : cells ≤ R.cells ∧ slots ≤ R.slots)
    (kk : ∀ (H1 : Heap) (locs1 : List Loc), va_P (dC, dI) vwCl L'.flatten H1 → va_D A0 L'.flatten → va_S A0 s.heap H1 locs1 → W p l e R s m args below meth c H1 locs1 cells slots Q (F0 m (pc + 3) ls (.int r :: rest))) : W p l e R s m args below meth c H locs cells slots Q (F0 m pc ls st0) := by
  have hF := jn_free j.1 hD hS hA
  have hrec : ∃ cell : Cell, H[b]? = some cell ∧ cell.vm.isStatics = false ∧ s.vm.findClass C = some cell.cls := by
    rw [← hq]
    exact va_recv hK hP hc he
  refine va_calli (va_runV (rest := rest) S0 hM cw ⟨fb_pW, hrec, fun U hU hW => ⟨rfl, by rw [hU], by rw [hU]; exact jn_P j.1 hP, va_K.moved hW.alike hK, nd⟩⟩ rfl hn hsize hst (lv_room hr) hdg hf) hS (fun q _ h => hF q h) hF (fun r1 u t H1 locs1 ht hvm hw hB hz1 hk1 hS1 => ?_)
  obtain ⟨hP1, -, -⟩ := hB
  rw [ht] at hP1
  obtain ⟨a1, a2⟩ := jn j hP hD hk1 hP1
  subst hw
  exact kk H1 locs1 a1 a2 hS1
theorem cl_LE (S0 : CallFix p m c cc nL s args Ts own)
    (hM : Met l y ws rm (va_Pc (.ref b :: As) (pE dC dI tys aK aV en tF tS Wc.flatten H.size)) (QI dC dI tys (va_A Wc.flatten H.size) Wc'.flatten r) 0 0 (va_A Wc.flatten H.size))
    (cw : CallW R s args own C index y bytes maxL ret ws rm 0 0 n) (hK : va_K (dC, dI) vwCl tys s) (hP : va_P (dC, dI) vwCl L.flatten H) (hD : va_D A0 L.flatten) (hS : va_S A0 s.heap H locs) (hA : ∀ q, s.heap.size ≤ q → A0 q) (hE : EX aK aV en tF tS A0 s s.heap)
    (j : JN is js L L' Wc Wc') (nd : va_D (fun _ => True) Wc.flatten) (q0 ci : Nat) {q : vw_C} {fs : List Value} (hc : vwCl[ci]? = some q) (hq : q.1 = C) (he : L.flatten[q0]? = some (b, .inr (ci, fs)))
    (hst : st0 = As.reverse ++ .ref b :: rest) (hn : As.length = n) (hsize : ls.size = nL) (hr : (rest.map fun v => v.category).sum ≤ 8) (hdg : decode cc pc = .ok (.invokevirtual index, 3)) (hf : cells ≤ R.cells ∧ slots ≤ R.slots)
    (kk : ∀ (H1 : Heap) (locs1 : List Loc), va_P (dC, dI) vwCl L'.flatten H1 → va_D A0 L'.flatten → va_S A0 s.heap H1 locs1 → W p l e R s m args below meth c H1 locs1 cells slots Q (F0 m (pc + 3) ls (.int r :: rest))) : W p l e R s m args below meth c H locs cells slots Q (F0 m pc ls st0) := by
  have hF := jn_free j.1 hD hS hA
  have hrec : ∃ cell : Cell, H[b]? = some cell ∧ cell.vm.isStatics = false ∧ s.vm.findClass C = some cell.cls := by
    rw [← hq]
    exact va_recv hK hP hc he
  refine va_calli (va_runV (rest := rest) S0 hM cw ⟨fb_pE, hrec, fun U hU hW => ⟨rfl, ⟨by rw [hU], by rw [hU]; exact jn_P j.1 hP, va_K.moved hW.alike hK, nd⟩, by rw [hU]; exact ((hE.kept hS.2.1).moved hW.alike).narrow hF⟩⟩ rfl hn hsize hst (lv_room hr) hdg hf) hS (fun q _ h => hF q h) hF (fun r1 u t H1 locs1 ht hvm hw hB hz1 hk1 hS1 => ?_)
  obtain ⟨hP1, -, -⟩ := hB
  rw [ht] at hP1
  obtain ⟨a1, a2⟩ := jn j hP hD hk1 hP1
  subst hw
  exact kk H1 locs1 a1 a2 hS1
end CLL
theorem LIFT.of {x : T5} {X : Option (Int32 × T5)} {σ : T2} {M : Option (Int32 × T2)} (h : LIFT x X σ M) : ∃ r x' σ', X = some (r, x') ∧ M = some (r, σ') ∧ Rel x' σ' := h
theorem law_in {i k L : Nat} (h : i + k < L) (hL : L ≤ 1536) : vp_in (nI i + nI k) L := by
  rw [nI_add]
  exact vp_in_nI h (by omega)
theorem law_far {i L : Nat} (hL : L ≤ 1536) (hi : i ≤ L) (h : ¬ nI L - 3 < nI i) : i + 3 ≤ L := by
  refine Nat.not_lt.mp (fun q => h ?_)
  rw [Int32.lt_iff_toInt_lt, show (3 : Int32) = nI 3 from rfl, pk_sub_toInt (by omega) (by omega), nI_toInt (by omega)]
  omega
theorem cd_X10_fault : yX10_fault.cls = RX10 ∧ yX10_fault.cls ≠ "java/lang/invoke/MethodHandle" ∧ yX10_fault.cls ≠ "java/lang/invoke/VarHandle" ∧ (parseMethodDescriptor yX10_fault.desc).map (fun d => d.parameters.length) = some 1 := by decide +kernel
theorem cd_X10_play : yX10_play.cls = RX10 ∧ yX10_play.cls ≠ "java/lang/invoke/MethodHandle" ∧ yX10_play.cls ≠ "java/lang/invoke/VarHandle" ∧ (parseMethodDescriptor yX10_play.desc).map (fun d => d.parameters.length) = some 0 := by decide +kernel
