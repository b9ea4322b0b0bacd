/-! START: the law from its entry -/
set_option maxHeartbeats 8000000 in
set_option maxRecDepth 100000 in
theorem whole_start {p : Program} {e : Env} {s : State} {m : MethodId} {below : List Frame} {meth : Method} {c : Code} (l : Launch) (hflags : l.flags = flags0) {b L : Nat} {xs : Nat → Int32} (hL : L ≤ 260) (C0 : lw_At p s m meth c b L xs) : W p l e room_1 s m #[Value.ref b] below meth c s.heap [] 0 0 (lw_Z below #[Value.ref b] s) (entryFrame m ([Value.ref b] : List Value).toArray 12) := by
  obtain ⟨hx, hb, hr, hml, hown, hts0, hX, hbl, hlocks, hgv⟩ := id C0
  have hown : s.vm.findClass RL = some m.cls := hown
  have hts : ∀ w ∈ wsL_law, w.before #[Value.ref b] s = true := fun w hw => hts0 w (wsL_law_in w hw)
  have hA : ∀ q : Nat, s.heap.size ≤ q → (fun q : Nat => s.heap.size ≤ q) q := fun _ h => h
  have hbA : ¬ (fun q : Nat => s.heap.size ≤ q) b := Nat.not_le.mpr hbl
  obtain ⟨dC, dI, cs, hK⟩ := start_K hts0
  obtain ⟨en, hV⟩ := start_VX hts0 hgv
  have hN := start_NW hts0
  have hS : va_S (fun q : Nat => s.heap.size ≤ q) s.heap s.heap [] := va_S.rf
  have hP : va_P (dC, dI) vwCl (List.flatten ([] : List va_W)) s.heap := fun k q h => by simp at h
  have hD : va_D (fun q : Nat => s.heap.size ≤ q) (List.flatten ([] : List va_W)) := ⟨(fun i j p q h _ _ => by simp at h), fun k q h => by simp at h⟩
  have hl := lv_entry ([.ref b]) (n := 12) (Nat.le_of_ble_eq_true rfl)
  rw [lg_entry_eq]
  generalize (lg_sl ([.ref b]) ++ List.replicate (12 - (lg_sl ([.ref b])).length) Slot.unset).toArray = ls at hl ⊢
  have hl : lv_has ls 12 [(0, .ref b)] := hl
  refine va_new (ci := 8) (fs := [.null, .null, .null, .int 0, .null, .null, .null]) (C := RX10) (T := TX10) (N := 7) hx hb hts0 inX10 tyX10 tyX10_ok hown (hts (.classLink RL 16 RX10) (List.mem_of_getElem? (i := 0) rfl)) (hts (.instantiable RX10 7) (List.mem_of_getElem? (i := 1) rfl)) (hts (.initialized RX10) (List.mem_of_getElem? (i := 2) rfl)) hK hP hD hS hA rfl (fun j hj => by rcases (show j = 0 ∨ j = 1 ∨ j = 2 ∨ j = 3 ∨ j = 4 ∨ j = 5 ∨ j = 6 by omega) with rfl | rfl | rfl | rfl | rfl | rfl | rfl <;> rfl) (Nat.le_of_ble_eq_true rfl) (Nat.le_of_ble_eq_true rfl) dL_law_0 (fun q0 H0 hP' hD' hS' => ?_)
  rw [fl_push] at hP' hD'
  refine lv_dup hx hb dL_law_3 rfl ?_
  refine cl_newI (ci := 8) (fs := [.null, .null, .null, .int 0, .null, .null, .null]) (L := []) (Wf := fun ad => (w_X10 ad 0 cs en zz10)) ⟨hx, hb, hml, hown, hts⟩ (k_X10_init l dC dI cs en q0 H0.size) (cwI 0 hts gL_law_X10_init rfl rfl rfl (hts (.initialized RX10) (List.mem_of_getElem? (i := 2) rfl)) (hts (.methodLink RL 122 yX10_init) (List.mem_of_getElem? (i := 5) rfl)) (hts (.instanceMethod yX10_init) (List.mem_of_getElem? (i := 6) rfl)) rfl (by decide +kernel) ⟨(Nat.le_of_ble_eq_true rfl), (Nat.le_of_ble_eq_true rfl)⟩) hK hP' hD' hS' hA hN hV rfl hl.1 (Nat.le_of_ble_eq_true rfl) dL_law_4 ⟨(Nat.le_of_ble_eq_true rfl), (Nat.le_of_ble_eq_true rfl)⟩ (fun ad H1 locs1 ead hP hD hS => ?_)
  subst ead
  replace hP : va_P (dC, dI) vwCl (fl [(w_X10 ad 0 cs en zz10)]) H1 := hP
  replace hD : va_D (fun q : Nat => s.heap.size ≤ q) (fl [(w_X10 ad 0 cs en zz10)]) := hD
  refine lv_astore_n (lv' := [(1, .ref (ad 0)), (0, .ref b)]) hx hb dL_law_7 rfl hl (Nat.le_of_ble_eq_true rfl) rfl (fun ls hl => ?_)
  refine lv_bipush (v := 8) hx hb dL_law_8 bp_8 ?_
  refine nw_ai (L := [(w_X10 ad 0 cs en zz10)]) hx hb (hts (.arrayClass .int) (List.mem_of_getElem? (i := 3) rfl)) hK hP hD hS hA (N := 8) (by decide) (by decide) (by decide) (Nat.le_of_ble_eq_true rfl) (Nat.le_of_ble_eq_true rfl) dL_law_10 (fun b1 H2 hP' hD' hS' => ?_)
  replace hP : va_P (dC, dI) vwCl (fl [(w_X10 ad 0 cs en zz10), [(b1, .inl (cs 0, 8, .inl (fun _ => 0)))]]) H2 := hP'
  replace hD : va_D (fun q : Nat => s.heap.size ≤ q) (fl [(w_X10 ad 0 cs en zz10), [(b1, .inl (cs 0, 8, .inl (fun _ => 0)))]]) := hD'
  replace hS := hS'
  clear hP' hD' hS'
  refine lv_astore_n (lv' := [(2, .ref b1), (1, .ref (ad 0)), (0, .ref b)]) hx hb dL_law_12 rfl hl (Nat.le_of_ble_eq_true rfl) rfl (fun ls hl => ?_)
  refine lv_bipush (v := 24) hx hb dL_law_13 bp_24 ?_
  refine nw_ai (L := [(w_X10 ad 0 cs en zz10), [(b1, .inl (cs 0, 8, .inl (fun _ => 0)))]]) hx hb (hts (.arrayClass .int) (List.mem_of_getElem? (i := 3) rfl)) hK hP hD hS hA (N := 24) (by decide) (by decide) (by decide) (Nat.le_of_ble_eq_true rfl) (Nat.le_of_ble_eq_true rfl) dL_law_15 (fun b2 H3 hP' hD' hS' => ?_)
  replace hP : va_P (dC, dI) vwCl (fl [(w_X10 ad 0 cs en zz10), [(b1, .inl (cs 0, 8, .inl (fun _ => 0)))], [(b2, .inl (cs 0, 24, .inl (fun _ => 0)))]]) H3 := hP'
  replace hD : va_D (fun q : Nat => s.heap.size ≤ q) (fl [(w_X10 ad 0 cs en zz10), [(b1, .inl (cs 0, 8, .inl (fun _ => 0)))], [(b2, .inl (cs 0, 24, .inl (fun _ => 0)))]]) := hD'
  replace hS := hS'
  clear hP' hD' hS'
  refine lv_astore_n (lv' := [(3, .ref b2), (2, .ref b1), (1, .ref (ad 0)), (0, .ref b)]) hx hb dL_law_17 rfl hl (Nat.le_of_ble_eq_true rfl) rfl (fun ls hl => ?_)
  refine lv_bipush (v := 48) hx hb dL_law_18 bp_48 ?_
  refine nw_ai (L := [(w_X10 ad 0 cs en zz10), [(b1, .inl (cs 0, 8, .inl (fun _ => 0)))], [(b2, .inl (cs 0, 24, .inl (fun _ => 0)))]]) hx hb (hts (.arrayClass .int) (List.mem_of_getElem? (i := 3) rfl)) hK hP hD hS hA (N := 48) (by decide) (by decide) (by decide) (Nat.le_of_ble_eq_true rfl) (Nat.le_of_ble_eq_true rfl) dL_law_20 (fun b3 H4 hP' hD' hS' => ?_)
  replace hP : va_P (dC, dI) vwCl (fl [(w_X10 ad 0 cs en zz10), [(b1, .inl (cs 0, 8, .inl (fun _ => 0)))], [(b2, .inl (cs 0, 24, .inl (fun _ => 0)))], [(b3, .inl (cs 0, 48, .inl (fun _ => 0)))]]) H4 := hP'
  replace hD : va_D (fun q : Nat => s.heap.size ≤ q) (fl [(w_X10 ad 0 cs en zz10), [(b1, .inl (cs 0, 8, .inl (fun _ => 0)))], [(b2, .inl (cs 0, 24, .inl (fun _ => 0)))], [(b3, .inl (cs 0, 48, .inl (fun _ => 0)))]]) := hD'
  replace hS := hS'
  clear hP' hD' hS'
  refine lv_astore (lv' := [(4, .ref b3), (3, .ref b2), (2, .ref b1), (1, .ref (ad 0)), (0, .ref b)]) hx hb dL_law_22 hl (Nat.le_of_ble_eq_true rfl) rfl (fun ls hl => ?_)
  refine lv_bipush (v := 48) hx hb dL_law_24 bp_48 ?_
  refine nw_ai (L := [(w_X10 ad 0 cs en zz10), [(b1, .inl (cs 0, 8, .inl (fun _ => 0)))], [(b2, .inl (cs 0, 24, .inl (fun _ => 0)))], [(b3, .inl (cs 0, 48, .inl (fun _ => 0)))]]) hx hb (hts (.arrayClass .int) (List.mem_of_getElem? (i := 3) rfl)) hK hP hD hS hA (N := 48) (by decide) (by decide) (by decide) (Nat.le_of_ble_eq_true rfl) (Nat.le_of_ble_eq_true rfl) dL_law_26 (fun b4 H5 hP' hD' hS' => ?_)
  replace hP : va_P (dC, dI) vwCl (fl [(w_X10 ad 0 cs en zz10), [(b1, .inl (cs 0, 8, .inl (fun _ => 0)))], [(b2, .inl (cs 0, 24, .inl (fun _ => 0)))], [(b3, .inl (cs 0, 48, .inl (fun _ => 0)))], [(b4, .inl (cs 0, 48, .inl (fun _ => 0)))]]) H5 := hP'
  replace hD : va_D (fun q : Nat => s.heap.size ≤ q) (fl [(w_X10 ad 0 cs en zz10), [(b1, .inl (cs 0, 8, .inl (fun _ => 0)))], [(b2, .inl (cs 0, 24, .inl (fun _ => 0)))], [(b3, .inl (cs 0, 48, .inl (fun _ => 0)))], [(b4, .inl (cs 0, 48, .inl (fun _ => 0)))]]) := hD'
  replace hS := hS'
  clear hP' hD' hS'
  refine lv_astore (lv' := [(5, .ref b4), (4, .ref b3), (3, .ref b2), (2, .ref b1), (1, .ref (ad 0)), (0, .ref b)]) hx hb dL_law_28 hl (Nat.le_of_ble_eq_true rfl) rfl (fun ls hl => ?_)
  refine lv_bipush (v := 40) hx hb dL_law_30 bp_40 ?_
  refine nw_ai (L := [(w_X10 ad 0 cs en zz10), [(b1, .inl (cs 0, 8, .inl (fun _ => 0)))], [(b2, .inl (cs 0, 24, .inl (fun _ => 0)))], [(b3, .inl (cs 0, 48, .inl (fun _ => 0)))], [(b4, .inl (cs 0, 48, .inl (fun _ => 0)))]]) hx hb (hts (.arrayClass .int) (List.mem_of_getElem? (i := 3) rfl)) hK hP hD hS hA (N := 40) (by decide) (by decide) (by decide) (Nat.le_of_ble_eq_true rfl) (Nat.le_of_ble_eq_true rfl) dL_law_32 (fun b5 H6 hP' hD' hS' => ?_)
  replace hP : va_P (dC, dI) vwCl (fl [(w_X10 ad 0 cs en zz10), [(b1, .inl (cs 0, 8, .inl (fun _ => 0)))], [(b2, .inl (cs 0, 24, .inl (fun _ => 0)))], [(b3, .inl (cs 0, 48, .inl (fun _ => 0)))], [(b4, .inl (cs 0, 48, .inl (fun _ => 0)))], [(b5, .inl (cs 0, 40, .inl (fun _ => 0)))]]) H6 := hP'
  replace hD : va_D (fun q : Nat => s.heap.size ≤ q) (fl [(w_X10 ad 0 cs en zz10), [(b1, .inl (cs 0, 8, .inl (fun _ => 0)))], [(b2, .inl (cs 0, 24, .inl (fun _ => 0)))], [(b3, .inl (cs 0, 48, .inl (fun _ => 0)))], [(b4, .inl (cs 0, 48, .inl (fun _ => 0)))], [(b5, .inl (cs 0, 40, .inl (fun _ => 0)))]]) := hD'
  replace hS := hS'
  clear hP' hD' hS'
  refine lv_astore (lv' := [(6, .ref b5), (5, .ref b4), (4, .ref b3), (3, .ref b2), (2, .ref b1), (1, .ref (ad 0)), (0, .ref b)]) hx hb dL_law_34 hl (Nat.le_of_ble_eq_true rfl) rfl (fun ls hl => ?_)
  refine lv_bipush (v := 32) hx hb dL_law_36 bp_32 ?_
  refine nw_ai (L := [(w_X10 ad 0 cs en zz10), [(b1, .inl (cs 0, 8, .inl (fun _ => 0)))], [(b2, .inl (cs 0, 24, .inl (fun _ => 0)))], [(b3, .inl (cs 0, 48, .inl (fun _ => 0)))], [(b4, .inl (cs 0, 48, .inl (fun _ => 0)))], [(b5, .inl (cs 0, 40, .inl (fun _ => 0)))]]) hx hb (hts (.arrayClass .int) (List.mem_of_getElem? (i := 3) rfl)) hK hP hD hS hA (N := 32) (by decide) (by decide) (by decide) (Nat.le_of_ble_eq_true rfl) (Nat.le_of_ble_eq_true rfl) dL_law_38 (fun b6 H7 hP' hD' hS' => ?_)
  replace hP : va_P (dC, dI) vwCl (fl [(w_X10 ad 0 cs en zz10), [(b1, .inl (cs 0, 8, .inl (fun _ => 0)))], [(b2, .inl (cs 0, 24, .inl (fun _ => 0)))], [(b3, .inl (cs 0, 48, .inl (fun _ => 0)))], [(b4, .inl (cs 0, 48, .inl (fun _ => 0)))], [(b5, .inl (cs 0, 40, .inl (fun _ => 0)))], [(b6, .inl (cs 0, 32, .inl (fun _ => 0)))]]) H7 := hP'
  replace hD : va_D (fun q : Nat => s.heap.size ≤ q) (fl [(w_X10 ad 0 cs en zz10), [(b1, .inl (cs 0, 8, .inl (fun _ => 0)))], [(b2, .inl (cs 0, 24, .inl (fun _ => 0)))], [(b3, .inl (cs 0, 48, .inl (fun _ => 0)))], [(b4, .inl (cs 0, 48, .inl (fun _ => 0)))], [(b5, .inl (cs 0, 40, .inl (fun _ => 0)))], [(b6, .inl (cs 0, 32, .inl (fun _ => 0)))]]) := hD'
  replace hS := hS'
  clear hP' hD' hS'
  refine lv_astore (lv' := [(7, .ref b6), (6, .ref b5), (5, .ref b4), (4, .ref b3), (3, .ref b2), (2, .ref b1), (1, .ref (ad 0)), (0, .ref b)]) hx hb dL_law_40 hl (Nat.le_of_ble_eq_true rfl) rfl (fun ls hl => ?_)
  refine lv_bipush (v := 6) hx hb dL_law_42 bp_6 ?_
  refine nw_ai (L := [(w_X10 ad 0 cs en zz10), [(b1, .inl (cs 0, 8, .inl (fun _ => 0)))], [(b2, .inl (cs 0, 24, .inl (fun _ => 0)))], [(b3, .inl (cs 0, 48, .inl (fun _ => 0)))], [(b4, .inl (cs 0, 48, .inl (fun _ => 0)))], [(b5, .inl (cs 0, 40, .inl (fun _ => 0)))], [(b6, .inl (cs 0, 32, .inl (fun _ => 0)))]]) hx hb (hts (.arrayClass .int) (List.mem_of_getElem? (i := 3) rfl)) hK hP hD hS hA (N := 6) (by decide) (by decide) (by decide) (Nat.le_of_ble_eq_true rfl) (Nat.le_of_ble_eq_true rfl) dL_law_44 (fun b7 H8 hP' hD' hS' => ?_)
  replace hP : va_P (dC, dI) vwCl (fl [(w_X10 ad 0 cs en zz10), [(b1, .inl (cs 0, 8, .inl (fun _ => 0)))], [(b2, .inl (cs 0, 24, .inl (fun _ => 0)))], [(b3, .inl (cs 0, 48, .inl (fun _ => 0)))], [(b4, .inl (cs 0, 48, .inl (fun _ => 0)))], [(b5, .inl (cs 0, 40, .inl (fun _ => 0)))], [(b6, .inl (cs 0, 32, .inl (fun _ => 0)))], [(b7, .inl (cs 0, 6, .inl (fun _ => 0)))]]) H8 := hP'
  replace hD : va_D (fun q : Nat => s.heap.size ≤ q) (fl [(w_X10 ad 0 cs en zz10), [(b1, .inl (cs 0, 8, .inl (fun _ => 0)))], [(b2, .inl (cs 0, 24, .inl (fun _ => 0)))], [(b3, .inl (cs 0, 48, .inl (fun _ => 0)))], [(b4, .inl (cs 0, 48, .inl (fun _ => 0)))], [(b5, .inl (cs 0, 40, .inl (fun _ => 0)))], [(b6, .inl (cs 0, 32, .inl (fun _ => 0)))], [(b7, .inl (cs 0, 6, .inl (fun _ => 0)))]]) := hD'
  replace hS := hS'
  clear hP' hD' hS'
  refine lv_astore (lv' := [(8, .ref b7), (7, .ref b6), (6, .ref b5), (5, .ref b4), (4, .ref b3), (3, .ref b2), (2, .ref b1), (1, .ref (ad 0)), (0, .ref b)]) hx hb dL_law_46 hl (Nat.le_of_ble_eq_true rfl) rfl (fun ls hl => ?_)
  replace hP : va_P (dC, dI) vwCl (fl [[(b1, .inl (cs 0, 8, .inl (fun _ => 0)))], [(b2, .inl (cs 0, 24, .inl (fun _ => 0)))], [(b3, .inl (cs 0, 48, .inl (fun _ => 0)))], [(b4, .inl (cs 0, 48, .inl (fun _ => 0)))], [(b5, .inl (cs 0, 40, .inl (fun _ => 0)))], [(b6, .inl (cs 0, 32, .inl (fun _ => 0)))], [(b7, .inl (cs 0, 6, .inl (fun _ => 0)))], (w_X10 ad (0) cs en zz10)]) H8 := va_P_mem hP (fun _ hq => law_perm.symm.subset hq)
  replace hD : va_D (fun q : Nat => s.heap.size ≤ q) (fl [[(b1, .inl (cs 0, 8, .inl (fun _ => 0)))], [(b2, .inl (cs 0, 24, .inl (fun _ => 0)))], [(b3, .inl (cs 0, 48, .inl (fun _ => 0)))], [(b4, .inl (cs 0, 48, .inl (fun _ => 0)))], [(b5, .inl (cs 0, 40, .inl (fun _ => 0)))], [(b6, .inl (cs 0, 32, .inl (fun _ => 0)))], [(b7, .inl (cs 0, 6, .inl (fun _ => 0)))], (w_X10 ad (0) cs en zz10)]) := va_D_perm hD law_perm
  refine lv_aload_n hx hb dL_law_48 rfl (lv_at hl 6 rfl) ?_
  refine lv_iconst (v := 5) hx hb dL_law_49 ic_5 ?_
  refine lv_bipush (v := 30) hx hb dL_law_50 bp_30 ?_
  refine va_iast hx hb hK hP hD hS 0 0 rfl rfl vi_5_8 dL_law_52 (fun H9 locsH9 hP' hD' hS' => ?_)
  replace hP : va_P (dC, dI) vwCl (fl [[(b1, .inl (cs 0, 8, .inl (sU (fun _ => 0) 5 30)))], [(b2, .inl (cs 0, 24, .inl (fun _ => 0)))], [(b3, .inl (cs 0, 48, .inl (fun _ => 0)))], [(b4, .inl (cs 0, 48, .inl (fun _ => 0)))], [(b5, .inl (cs 0, 40, .inl (fun _ => 0)))], [(b6, .inl (cs 0, 32, .inl (fun _ => 0)))], [(b7, .inl (cs 0, 6, .inl (fun _ => 0)))], (w_X10 ad (0) cs en zz10)]) H9 := hP'
  replace hD : va_D (fun q : Nat => s.heap.size ≤ q) (fl [[(b1, .inl (cs 0, 8, .inl (sU (fun _ => 0) 5 30)))], [(b2, .inl (cs 0, 24, .inl (fun _ => 0)))], [(b3, .inl (cs 0, 48, .inl (fun _ => 0)))], [(b4, .inl (cs 0, 48, .inl (fun _ => 0)))], [(b5, .inl (cs 0, 40, .inl (fun _ => 0)))], [(b6, .inl (cs 0, 32, .inl (fun _ => 0)))], [(b7, .inl (cs 0, 6, .inl (fun _ => 0)))], (w_X10 ad (0) cs en zz10)]) := hD'
  replace hS := hS'
  clear hP' hS' hD'
  refine lv_aload_n hx hb dL_law_53 rfl (lv_at hl 6 rfl) ?_
  refine lv_bipush (v := 6) hx hb dL_law_54 bp_6 ?_
  refine lv_bipush (v := 60) hx hb dL_law_56 bp_60 ?_
  refine va_iast hx hb hK hP hD hS 0 0 rfl rfl vi_6_8 dL_law_58 (fun H10 locsH10 hP' hD' hS' => ?_)
  replace hP : va_P (dC, dI) vwCl (fl [[(b1, .inl (cs 0, 8, .inl (sU (sU (fun _ => 0) 5 30) 6 60)))], [(b2, .inl (cs 0, 24, .inl (fun _ => 0)))], [(b3, .inl (cs 0, 48, .inl (fun _ => 0)))], [(b4, .inl (cs 0, 48, .inl (fun _ => 0)))], [(b5, .inl (cs 0, 40, .inl (fun _ => 0)))], [(b6, .inl (cs 0, 32, .inl (fun _ => 0)))], [(b7, .inl (cs 0, 6, .inl (fun _ => 0)))], (w_X10 ad (0) cs en zz10)]) H10 := hP'
  replace hD : va_D (fun q : Nat => s.heap.size ≤ q) (fl [[(b1, .inl (cs 0, 8, .inl (sU (sU (fun _ => 0) 5 30) 6 60)))], [(b2, .inl (cs 0, 24, .inl (fun _ => 0)))], [(b3, .inl (cs 0, 48, .inl (fun _ => 0)))], [(b4, .inl (cs 0, 48, .inl (fun _ => 0)))], [(b5, .inl (cs 0, 40, .inl (fun _ => 0)))], [(b6, .inl (cs 0, 32, .inl (fun _ => 0)))], [(b7, .inl (cs 0, 6, .inl (fun _ => 0)))], (w_X10 ad (0) cs en zz10)]) := hD'
  replace hS := hS'
  clear hP' hS' hD'
  refine lv_aload_n hx hb dL_law_59 rfl (lv_at hl 6 rfl) ?_
  refine lv_bipush (v := 7) hx hb dL_law_60 bp_7 ?_
  refine lv_bipush (v := 100) hx hb dL_law_62 bp_100 ?_
  refine va_iast hx hb hK hP hD hS 0 0 rfl rfl vi_7_8 dL_law_64 (fun H11 locsH11 hP' hD' hS' => ?_)
  replace hP : va_P (dC, dI) vwCl (fl [[(b1, .inl (cs 0, 8, .inl (sU (sU (sU (fun _ => 0) 5 30) 6 60) 7 100)))], [(b2, .inl (cs 0, 24, .inl (fun _ => 0)))], [(b3, .inl (cs 0, 48, .inl (fun _ => 0)))], [(b4, .inl (cs 0, 48, .inl (fun _ => 0)))], [(b5, .inl (cs 0, 40, .inl (fun _ => 0)))], [(b6, .inl (cs 0, 32, .inl (fun _ => 0)))], [(b7, .inl (cs 0, 6, .inl (fun _ => 0)))], (w_X10 ad (0) cs en zz10)]) H11 := hP'
  replace hD : va_D (fun q : Nat => s.heap.size ≤ q) (fl [[(b1, .inl (cs 0, 8, .inl (sU (sU (sU (fun _ => 0) 5 30) 6 60) 7 100)))], [(b2, .inl (cs 0, 24, .inl (fun _ => 0)))], [(b3, .inl (cs 0, 48, .inl (fun _ => 0)))], [(b4, .inl (cs 0, 48, .inl (fun _ => 0)))], [(b5, .inl (cs 0, 40, .inl (fun _ => 0)))], [(b6, .inl (cs 0, 32, .inl (fun _ => 0)))], [(b7, .inl (cs 0, 6, .inl (fun _ => 0)))], (w_X10 ad (0) cs en zz10)]) := hD'
  replace hS := hS'
  clear hP' hS' hD'
  refine lv_aload_n hx hb dL_law_65 rfl (lv_at hl 7 rfl) ?_
  refine lv_aload_n hx hb dL_law_66 rfl (lv_at hl 6 rfl) ?_
  refine lv_aload_n hx hb dL_law_67 rfl (lv_at hl 5 rfl) ?_
  refine lv_aload hx hb dL_law_68 (lv_at hl 4 rfl) ?_
  refine lv_aload hx hb dL_law_70 (lv_at hl 3 rfl) ?_
  refine lv_aload hx hb dL_law_72 (lv_at hl 2 rfl) ?_
  refine lv_aload hx hb dL_law_74 (lv_at hl 1 rfl) ?_
  refine lv_aload hx hb dL_law_76 (lv_at hl 0 rfl) ?_
  obtain ⟨x1, eS, hJ1⟩ := A_isSo lJ0
  replace hP : va_P (dC, dI) vwCl (fl [[(b1, .inl (cs 0, 8, .inl zzG))], [(b2, .inl (cs 0, 24, .inl (fun _ => 0)))], [(b3, .inl (cs 0, 48, .inl (fun _ => 0)))], [(b4, .inl (cs 0, 48, .inl (fun _ => 0)))], [(b5, .inl (cs 0, 40, .inl (fun _ => 0)))], [(b6, .inl (cs 0, 32, .inl (fun _ => 0)))], [(b7, .inl (cs 0, 6, .inl (fun _ => 0)))], (w_X10 ad (0) cs en zz10)]) H11 := hP
  replace hD : va_D (fun q : Nat => s.heap.size ≤ q) (fl [[(b1, .inl (cs 0, 8, .inl zzG))], [(b2, .inl (cs 0, 24, .inl (fun _ => 0)))], [(b3, .inl (cs 0, 48, .inl (fun _ => 0)))], [(b4, .inl (cs 0, 48, .inl (fun _ => 0)))], [(b5, .inl (cs 0, 40, .inl (fun _ => 0)))], [(b6, .inl (cs 0, 32, .inl (fun _ => 0)))], [(b7, .inl (cs 0, 6, .inl (fun _ => 0)))], (w_X10 ad (0) cs en zz10)]) := hD
  refine cm_Si (As := [.ref (ad 0), .ref b1, .ref b2, .ref b3, .ref b4, .ref b5, .ref b6, .ref b7]) (rest := []) (L := [[(b1, .inl (cs 0, 8, .inl zzG))], [(b2, .inl (cs 0, 24, .inl (fun _ => 0)))], [(b3, .inl (cs 0, 48, .inl (fun _ => 0)))], [(b4, .inl (cs 0, 48, .inl (fun _ => 0)))], [(b5, .inl (cs 0, 40, .inl (fun _ => 0)))], [(b6, .inl (cs 0, 32, .inl (fun _ => 0)))], [(b7, .inl (cs 0, 6, .inl (fun _ => 0)))], (w_X10 ad (0) cs en zz10)]) (L' := [[(b1, .inl (cs 0, 8, .inl zzG))], [(b2, .inl (cs 0, 24, .inl (fun _ => 0)))], [(b3, .inl (cs 0, 48, .inl (fun _ => 0)))], [(b4, .inl (cs 0, 48, .inl (fun _ => 0)))], [(b5, .inl (cs 0, 40, .inl (fun _ => 0)))], [(b6, .inl (cs 0, 32, .inl (fun _ => 0)))], [(b7, .inl (cs 0, 6, .inl (fun _ => 0)))], (w_X10 ad (0) cs en x1)]) (Wc := [[(b1, .inl (cs 0, 8, .inl zzG))], [(b2, .inl (cs 0, 24, .inl (fun _ => 0)))], [(b3, .inl (cs 0, 48, .inl (fun _ => 0)))], [(b4, .inl (cs 0, 48, .inl (fun _ => 0)))], [(b5, .inl (cs 0, 40, .inl (fun _ => 0)))], [(b6, .inl (cs 0, 32, .inl (fun _ => 0)))], [(b7, .inl (cs 0, 6, .inl (fun _ => 0)))], (w_X10 ad (0) cs en zz10)]) (Wc' := [[(b1, .inl (cs 0, 8, .inl zzG))], [(b2, .inl (cs 0, 24, .inl (fun _ => 0)))], [(b3, .inl (cs 0, 48, .inl (fun _ => 0)))], [(b4, .inl (cs 0, 48, .inl (fun _ => 0)))], [(b5, .inl (cs 0, 40, .inl (fun _ => 0)))], [(b6, .inl (cs 0, 32, .inl (fun _ => 0)))], [(b7, .inl (cs 0, 6, .inl (fun _ => 0)))], (w_X10 ad (0) cs en x1)]) (is := [0, 1, 2, 3, 4, 5, 6, 7]) (js := []) ⟨hx, hb, hml, hown, hts⟩ (k_L_isSo l dC dI cs ad en b1 b2 b3 b4 b5 b6 b7 H11.size zzG (fun _ => 0) (fun _ => 0) (fun _ => 0) (fun _ => 0) (fun _ => 0) (fun _ => 0) zz10 1 x1 eS) (va_cwS 8 hts gL_law_L_isSo rfl rfl rfl cd_L_isSo.2 ⟨(Nat.le_of_ble_eq_true rfl), (Nat.le_of_ble_eq_true rfl)⟩) hK hP hD hS hA ⟨rfl, rfl, rfl, rfl, rfl, rfl⟩ (jn_nd (is := [0, 1, 2, 3, 4, 5, 6, 7]) hD rfl rfl) rfl rfl hl.1 (Nat.le_of_ble_eq_true rfl) dL_law_78 ⟨(Nat.le_of_ble_eq_true rfl), (Nat.le_of_ble_eq_true rfl)⟩ (fun H12 locsH12 hP' hD' hS' => ?_)
  replace hP : va_P (dC, dI) vwCl (fl [[(b1, .inl (cs 0, 8, .inl zzG))], [(b2, .inl (cs 0, 24, .inl (fun _ => 0)))], [(b3, .inl (cs 0, 48, .inl (fun _ => 0)))], [(b4, .inl (cs 0, 48, .inl (fun _ => 0)))], [(b5, .inl (cs 0, 40, .inl (fun _ => 0)))], [(b6, .inl (cs 0, 32, .inl (fun _ => 0)))], [(b7, .inl (cs 0, 6, .inl (fun _ => 0)))], (w_X10 ad (0) cs en x1)]) H12 := hP'
  replace hD : va_D (fun q : Nat => s.heap.size ≤ q) (fl [[(b1, .inl (cs 0, 8, .inl zzG))], [(b2, .inl (cs 0, 24, .inl (fun _ => 0)))], [(b3, .inl (cs 0, 48, .inl (fun _ => 0)))], [(b4, .inl (cs 0, 48, .inl (fun _ => 0)))], [(b5, .inl (cs 0, 40, .inl (fun _ => 0)))], [(b6, .inl (cs 0, 32, .inl (fun _ => 0)))], [(b7, .inl (cs 0, 6, .inl (fun _ => 0)))], (w_X10 ad (0) cs en x1)]) := hD'
  replace hS := hS'
  clear hP' hS' hD'
  refine lv_istore (lv' := [(9, .int 1), (8, .ref b7), (7, .ref b6), (6, .ref b5), (5, .ref b4), (4, .ref b3), (3, .ref b2), (2, .ref b1), (1, .ref (ad 0)), (0, .ref b)]) hx hb dL_law_81 hl (Nat.le_of_ble_eq_true rfl) rfl (fun ls hl => ?_)
  refine lv_iconst (v := nI 0) hx hb dL_law_83 ic_0 ?_
  refine lv_istore (lv' := [(10, .int (nI 0)), (9, .int 1), (8, .ref b7), (7, .ref b6), (6, .ref b5), (5, .ref b4), (4, .ref b3), (3, .ref b2), (2, .ref b1), (1, .ref (ad 0)), (0, .ref b)]) hx hb dL_law_84 hl (Nat.le_of_ble_eq_true rfl) rfl (fun ls hl => ?_)
  exact law_l1 C0 hL hK 10 0 zzG (fun _ => 0) (fun _ => 0) (fun _ => 0) (fun _ => 0) (fun _ => 0) (fun _ => 0) x1 zz11 H12 _ ls _ _ (by decide) (by decide) hJ1 (Nat.le_of_ble_eq_true rfl) (Nat.le_of_ble_eq_true rfl) hP hD hS (lv_sub hl [10, 9, 8, 7, 6, 5, 4, 3, 2, 1, 0] rfl)
