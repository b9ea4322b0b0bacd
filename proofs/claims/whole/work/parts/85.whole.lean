/-! START: the law from its entry -/
set_option maxHeartbeats 4000000 in
set_option maxRecDepth 100000 in
theorem whole_start {p : Program} {e : Env} {s : State} {m : MethodId} {below : List Frame} {meth : Method} {c : Code} (l : Launch) (hflags : l.flags = flags0) {b L : Nat} {xs : Nat → Int32} (hL : L ≤ 1536) (C0 : lw_At p s m meth c b L xs) : W p l e room_1 s m #[Value.ref b] below meth c s.heap [] 0 0 (lw_Z below #[Value.ref b] s) (entryFrame m ([Value.ref b] : List Value).toArray 4) := by
  obtain ⟨hx, hb, hr, hml, hown, hts0, hX, hbl, hlocks, hgv⟩ := id C0
  have hown : s.vm.findClass RL = some m.cls := hown
  have hts : ∀ w ∈ wsL_law, w.before #[Value.ref b] s = true := fun w hw => hts0 w (wsL_law_in w hw)
  have hA : ∀ q : Nat, s.heap.size ≤ q → (fun q : Nat => s.heap.size ≤ q) q := fun _ h => h
  obtain ⟨dC, dI, cs, hK⟩ := start_K hts0
  obtain ⟨aK, aV, en, tF, tS, hE, hV⟩ := start_EX hts0 hgv
  have hN := start_NW hts0
  have hS : va_S (fun q : Nat => s.heap.size ≤ q) s.heap s.heap [] := va_S.rf
  have hP : va_P (dC, dI) vwCl (List.flatten ([] : List va_W)) s.heap := fun k q h => by simp at h
  have hD : va_D (fun q : Nat => s.heap.size ≤ q) (List.flatten ([] : List va_W)) := ⟨(fun i j p q h _ _ => by simp at h), fun k q h => by simp at h⟩
  have hl := lv_entry ([.ref b]) (n := 4) (Nat.le_of_ble_eq_true rfl)
  rw [lg_entry_eq]
  generalize (lg_sl ([.ref b]) ++ List.replicate (4 - (lg_sl ([.ref b])).length) Slot.unset).toArray = ls at hl ⊢
  have hl : lv_has ls 4 [(0, .ref b)] := hl
  refine va_new (ci := 8) (fs := [.null, .null, .null, .int 0, .null, .null, .null]) (C := RX10) (T := TX10) (N := 7) hx hb hts0 inX10 tyX10 tyX10_ok hown (hts (.classLink RL 7 RX10) (List.mem_of_getElem? (i := 0) rfl)) (hts (.instantiable RX10 7) (List.mem_of_getElem? (i := 1) rfl)) (hts (.initialized RX10) (List.mem_of_getElem? (i := 2) rfl)) hK hP hD hS hA rfl (fun j hj => by rcases (show j = 0 ∨ j = 1 ∨ j = 2 ∨ j = 3 ∨ j = 4 ∨ j = 5 ∨ j = 6 by omega) with rfl | rfl | rfl | rfl | rfl | rfl | rfl <;> rfl) (Nat.le_of_ble_eq_true rfl) (Nat.le_of_ble_eq_true rfl) dL_law_0 (fun q0 H0 hP' hD' hS' => ?_)
  rw [fl_push] at hP' hD'
  refine lv_dup hx hb dL_law_3 rfl ?_
  refine cl_newI (ci := 8) (fs := [.null, .null, .null, .int 0, .null, .null, .null]) (L := []) (Wf := fun ad => (w_X10 ad 0 cs en zz10)) ⟨hx, hb, hml, hown, hts⟩ (k_X10_init l dC dI cs en q0 H0.size) (cwI 0 hts gL_law_X10_init rfl rfl rfl (hts (.initialized RX10) (List.mem_of_getElem? (i := 2) rfl)) (hts (.methodLink RL 9 yX10_init) (List.mem_of_getElem? (i := 6) rfl)) (hts (.instanceMethod yX10_init) (List.mem_of_getElem? (i := 7) rfl)) rfl (by decide +kernel) ⟨(Nat.le_of_ble_eq_true rfl), (Nat.le_of_ble_eq_true rfl)⟩) hK hP' hD' hS' hA hN hV rfl hl.1 (Nat.le_of_ble_eq_true rfl) dL_law_4 ⟨(Nat.le_of_ble_eq_true rfl), (Nat.le_of_ble_eq_true rfl)⟩ (fun aX H1 locsH1 eaX hP hD hS => ?_)
  subst eaX
  replace hP : va_P (dC, dI) vwCl (fl [(w_X10 aX 0 cs en zz10)]) H1 := hP
  replace hD : va_D (fun q : Nat => s.heap.size ≤ q) (fl [(w_X10 aX 0 cs en zz10)]) := hD
  refine lv_astore_n (lv' := [(1, .ref (aX 0)), (0, .ref b)]) hx hb dL_law_7 rfl hl (Nat.le_of_ble_eq_true rfl) rfl (fun ls hl => ?_)
  refine va_new (ci := 9) (fs := [.null, .null, .null, .null, .int 0, .int 0, .int 0, .null, .int 0, .int 0, .int 0, .int 0, .int 0, .null]) (C := RX11) (T := TX11) (N := 14) hx hb hts0 inX11 tyX11 tyX11_ok hown (hts (.classLink RL 10 RX11) (List.mem_of_getElem? (i := 3) rfl)) (hts (.instantiable RX11 14) (List.mem_of_getElem? (i := 4) rfl)) (hts (.initialized RX11) (List.mem_of_getElem? (i := 5) rfl)) hK hP hD hS hA rfl (fun j hj => by rcases (show j = 0 ∨ j = 1 ∨ j = 2 ∨ j = 3 ∨ j = 4 ∨ j = 5 ∨ j = 6 ∨ j = 7 ∨ j = 8 ∨ j = 9 ∨ j = 10 ∨ j = 11 ∨ j = 12 ∨ j = 13 by omega) with rfl | rfl | rfl | rfl | rfl | rfl | rfl | rfl | rfl | rfl | rfl | rfl | rfl | rfl <;> rfl) (Nat.le_of_ble_eq_true rfl) (Nat.le_of_ble_eq_true rfl) dL_law_8 (fun q1 H2 hP' hD' hS' => ?_)
  rw [fl_push] at hP' hD'
  refine lv_dup hx hb dL_law_11 rfl ?_
  refine cl_newI (ci := 9) (fs := [.null, .null, .null, .null, .int 0, .int 0, .int 0, .null, .int 0, .int 0, .int 0, .int 0, .int 0, .null]) (L := [(w_X10 aX 0 cs en zz10)]) (Wf := fun ad => (w_X11 ad 0 cs zz11)) ⟨hx, hb, hml, hown, hts⟩ (k_X11_init l dC dI cs en q1 H2.size) (cwI 0 hts gL_law_X11_init rfl rfl rfl (hts (.initialized RX11) (List.mem_of_getElem? (i := 5) rfl)) (hts (.methodLink RL 12 yX11_init) (List.mem_of_getElem? (i := 114) rfl)) (hts (.instanceMethod yX11_init) (List.mem_of_getElem? (i := 115) rfl)) rfl (by decide +kernel) ⟨(Nat.le_of_ble_eq_true rfl), (Nat.le_of_ble_eq_true rfl)⟩) hK hP' hD' hS' hA hN hV rfl hl.1 (Nat.le_of_ble_eq_true rfl) dL_law_12 ⟨(Nat.le_of_ble_eq_true rfl), (Nat.le_of_ble_eq_true rfl)⟩ (fun aM H3 locsH3 eaM hP hD hS => ?_)
  subst eaM
  replace hP : va_P (dC, dI) vwCl (fl [(w_X10 aX (0) cs en zz10), (w_X11 aM (0) cs zz11)]) H3 := hP
  replace hD : va_D (fun q : Nat => s.heap.size ≤ q) (fl [(w_X10 aX (0) cs en zz10), (w_X11 aM (0) cs zz11)]) := hD
  refine lv_astore_n (lv' := [(2, .ref (aM 0)), (1, .ref (aX 0)), (0, .ref b)]) hx hb dL_law_15 rfl hl (Nat.le_of_ble_eq_true rfl) rfl (fun ls hl => ?_)
  refine lv_iconst (v := nI 0) hx hb dL_law_16 ic_0 ?_
  refine lv_istore_n (lv' := [(3, .int (nI 0)), (2, .ref (aM 0)), (1, .ref (aX 0)), (0, .ref b)]) hx hb dL_law_17 rfl hl (Nat.le_of_ble_eq_true rfl) rfl (fun ls hl => ?_)
  exact law_loop hL C0 hK hE (L + 1) 0 zz10 zz11 H3 _ ls (Nat.zero_le L) (by omega) rel0 hP hD hS (lv_sub hl [3, 2, 1, 0] rfl)
