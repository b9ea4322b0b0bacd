set_option maxHeartbeats 4000000 in
set_option maxRecDepth 100000 in
theorem law_bicycleOf {p : Program} {l : Launch} {e : Env} {s : State} {m : MethodId} {below : List Frame} {meth : Method} {c : Code} {b L : Nat} {xs : Nat → Int32} {dC : Nat → ClassId} {dI : Nat → Nat → Nat} {cs : Nat → ClassId} {aX aM en : Nat → Nat} (C0 : lw_At p s m meth c b L xs) (hL : L ≤ 1536) (hK : va_K (dC, dI) vwCl (tyL cs) s) {i : Nat} (hi : i + 3 ≤ L) {X : T5} {σ : T2} (hRel : Rel X σ) {H : Heap} {locs : List Loc} {ls : Array Slot} (hP : va_P (dC, dI) vwCl (fl [(w_X10 aX (0) cs en X), (w_X11 aM (0) cs σ)]) H) (hD : va_D (fun q : Nat => s.heap.size ≤ q) (fl [(w_X10 aX (0) cs en X), (w_X11 aM (0) cs σ)])) (hS : va_S (fun q : Nat => s.heap.size ≤ q) s.heap H locs) (hl : lv_has ls 4 [(0, .ref b), (1, .ref (aX 0)), (2, .ref (aM 0)), (3, .int (nI i))]) (kk : ∀ (X' : T5) (σ' : T2) (H1 : Heap) (locs1 : List Loc), Rel X' σ' → va_P (dC, dI) vwCl (fl [(w_X10 aX (0) cs en X'), (w_X11 aM (0) cs σ')]) H1 → va_D (fun q : Nat => s.heap.size ≤ q) (fl [(w_X10 aX (0) cs en X'), (w_X11 aM (0) cs σ')]) → va_S (fun q : Nat => s.heap.size ≤ q) s.heap H1 locs1 → W p l e room_1 s m #[Value.ref b] below meth c H1 locs1 213 3262 (lw_Z below #[Value.ref b] s) (F0 m 901 ls [])) : W p l e room_1 s m #[Value.ref b] below meth c H locs 213 3262 (lw_Z below #[Value.ref b] s) (F0 m 632 ls []) := by
  obtain ⟨hx, hb, hr, hml, hown, hts0, hX, hbl, hlocks, hgv⟩ := id C0
  have hown : s.vm.findClass RL = some m.cls := hown
  have hts : ∀ w ∈ wsL_law, w.before #[Value.ref b] s = true := fun w hw => hts0 w (wsL_law_in w hw)
  have hA : ∀ q : Nat, s.heap.size ≤ q → (fun q : Nat => s.heap.size ≤ q) q := fun _ h => h
  have hbA : ¬ (fun q : Nat => s.heap.size ≤ q) b := Nat.not_le.mpr hbl
  have h_1 : vp_in (nI i + nI 1) L := law_in (by omega) hL
  have h_2 : vp_in (nI i + nI 2) L := law_in (by omega) hL
  obtain ⟨r, eX, eM⟩ := r_bicycleOf hRel (xs (nI i + nI 1).toNatClampNeg) (xs (nI i + nI 2).toNatClampNeg)
  refine lv_aload_n hx hb dL_law_632 rfl (lv_at hl 1 rfl) ?_
  refine lv_aload_n hx hb dL_law_633 rfl (lv_at hl 0 rfl) ?_
  refine lv_iload_n hx hb dL_law_634 rfl (lv_at hl 3 rfl) ?_
  refine lv_iconst (v := nI 1) hx hb dL_law_635 ic_1 ?_
  refine lv_iadd hx hb dL_law_636 ?_
  refine va_sld hx hb hX hbl hbA hS h_1 dL_law_637 ?_
  refine lv_aload_n hx hb dL_law_638 rfl (lv_at hl 0 rfl) ?_
  refine lv_iload_n hx hb dL_law_639 rfl (lv_at hl 3 rfl) ?_
  refine lv_iconst (v := nI 2) hx hb dL_law_640 ic_2 ?_
  refine lv_iadd hx hb dL_law_641 ?_
  refine va_sld hx hb hX hbl hbA hS h_2 dL_law_642 ?_
  refine cl_L (As := [.int (xs (nI i + nI 1).toNatClampNeg), .int (xs (nI i + nI 2).toNatClampNeg)]) (rest := []) (L := [(w_X10 aX (0) cs en X), (w_X11 aM (0) cs σ)]) (L' := [(w_X10 aX (0) cs en X), (w_X11 aM (0) cs σ)]) (Wc := [(w_X10 aX (0) cs en X)]) (Wc' := [(w_X10 aX (0) cs en X)]) (is := [0]) (js := [1]) ⟨hx, hb, hml, hown, hts⟩ (k_X10_bicycleOf l dC dI cs aX en H.size X (xs (nI i + nI 1).toNatClampNeg) (xs (nI i + nI 2).toNatClampNeg) r eX) (cwV 2 hts gL_law_X10_bicycleOf rfl rfl rfl cd_X10_bicycleOf ⟨(Nat.le_of_ble_eq_true rfl), (Nat.le_of_ble_eq_true rfl)⟩) hK hP hD hS hA ⟨rfl, rfl, rfl, rfl, rfl, rfl⟩ (jn_nd (is := [0]) hD rfl rfl) 0 8 rfl rfl rfl rfl rfl hl.1 (Nat.le_of_ble_eq_true rfl) dL_law_643 ⟨(Nat.le_of_ble_eq_true rfl), (Nat.le_of_ble_eq_true rfl)⟩ (fun H1 locs1 hP' hD' hS' => ?_)
  replace hP : va_P (dC, dI) vwCl (fl [(w_X10 aX (0) cs en X), (w_X11 aM (0) cs σ)]) H1 := hP'
  replace hD : va_D (fun q : Nat => s.heap.size ≤ q) (fl [(w_X10 aX (0) cs en X), (w_X11 aM (0) cs σ)]) := hD'
  replace hS := hS'
  exact kk X σ _ _ hRel hP hD hS
set_option maxHeartbeats 4000000 in
set_option maxRecDepth 100000 in
theorem law_riderOf {p : Program} {l : Launch} {e : Env} {s : State} {m : MethodId} {below : List Frame} {meth : Method} {c : Code} {b L : Nat} {xs : Nat → Int32} {dC : Nat → ClassId} {dI : Nat → Nat → Nat} {cs : Nat → ClassId} {aX aM en : Nat → Nat} (C0 : lw_At p s m meth c b L xs) (hL : L ≤ 1536) (hK : va_K (dC, dI) vwCl (tyL cs) s) {i : Nat} (hi : i + 3 ≤ L) {X : T5} {σ : T2} (hRel : Rel X σ) {H : Heap} {locs : List Loc} {ls : Array Slot} (hP : va_P (dC, dI) vwCl (fl [(w_X10 aX (0) cs en X), (w_X11 aM (0) cs σ)]) H) (hD : va_D (fun q : Nat => s.heap.size ≤ q) (fl [(w_X10 aX (0) cs en X), (w_X11 aM (0) cs σ)])) (hS : va_S (fun q : Nat => s.heap.size ≤ q) s.heap H locs) (hl : lv_has ls 4 [(0, .ref b), (1, .ref (aX 0)), (2, .ref (aM 0)), (3, .int (nI i))]) (kk : ∀ (X' : T5) (σ' : T2) (H1 : Heap) (locs1 : List Loc), Rel X' σ' → va_P (dC, dI) vwCl (fl [(w_X10 aX (0) cs en X'), (w_X11 aM (0) cs σ')]) H1 → va_D (fun q : Nat => s.heap.size ≤ q) (fl [(w_X10 aX (0) cs en X'), (w_X11 aM (0) cs σ')]) → va_S (fun q : Nat => s.heap.size ≤ q) s.heap H1 locs1 → W p l e room_1 s m #[Value.ref b] below meth c H1 locs1 213 3262 (lw_Z below #[Value.ref b] s) (F0 m 901 ls [])) : W p l e room_1 s m #[Value.ref b] below meth c H locs 213 3262 (lw_Z below #[Value.ref b] s) (F0 m 665 ls []) := by
  obtain ⟨hx, hb, hr, hml, hown, hts0, hX, hbl, hlocks, hgv⟩ := id C0
  have hown : s.vm.findClass RL = some m.cls := hown
  have hts : ∀ w ∈ wsL_law, w.before #[Value.ref b] s = true := fun w hw => hts0 w (wsL_law_in w hw)
  have hA : ∀ q : Nat, s.heap.size ≤ q → (fun q : Nat => s.heap.size ≤ q) q := fun _ h => h
  have hbA : ¬ (fun q : Nat => s.heap.size ≤ q) b := Nat.not_le.mpr hbl
  have h_1 : vp_in (nI i + nI 1) L := law_in (by omega) hL
  have h_2 : vp_in (nI i + nI 2) L := law_in (by omega) hL
  obtain ⟨r, eX, eM⟩ := r_riderOf hRel (xs (nI i + nI 1).toNatClampNeg) (xs (nI i + nI 2).toNatClampNeg)
  refine lv_aload_n hx hb dL_law_665 rfl (lv_at hl 1 rfl) ?_
  refine lv_aload_n hx hb dL_law_666 rfl (lv_at hl 0 rfl) ?_
  refine lv_iload_n hx hb dL_law_667 rfl (lv_at hl 3 rfl) ?_
  refine lv_iconst (v := nI 1) hx hb dL_law_668 ic_1 ?_
  refine lv_iadd hx hb dL_law_669 ?_
  refine va_sld hx hb hX hbl hbA hS h_1 dL_law_670 ?_
  refine lv_aload_n hx hb dL_law_671 rfl (lv_at hl 0 rfl) ?_
  refine lv_iload_n hx hb dL_law_672 rfl (lv_at hl 3 rfl) ?_
  refine lv_iconst (v := nI 2) hx hb dL_law_673 ic_2 ?_
  refine lv_iadd hx hb dL_law_674 ?_
  refine va_sld hx hb hX hbl hbA hS h_2 dL_law_675 ?_
  refine cl_L (As := [.int (xs (nI i + nI 1).toNatClampNeg), .int (xs (nI i + nI 2).toNatClampNeg)]) (rest := []) (L := [(w_X10 aX (0) cs en X), (w_X11 aM (0) cs σ)]) (L' := [(w_X10 aX (0) cs en X), (w_X11 aM (0) cs σ)]) (Wc := [(w_X10 aX (0) cs en X)]) (Wc' := [(w_X10 aX (0) cs en X)]) (is := [0]) (js := [1]) ⟨hx, hb, hml, hown, hts⟩ (k_X10_riderOf l dC dI cs aX en H.size X (xs (nI i + nI 1).toNatClampNeg) (xs (nI i + nI 2).toNatClampNeg) r eX) (cwV 2 hts gL_law_X10_riderOf rfl rfl rfl cd_X10_riderOf ⟨(Nat.le_of_ble_eq_true rfl), (Nat.le_of_ble_eq_true rfl)⟩) hK hP hD hS hA ⟨rfl, rfl, rfl, rfl, rfl, rfl⟩ (jn_nd (is := [0]) hD rfl rfl) 0 8 rfl rfl rfl rfl rfl hl.1 (Nat.le_of_ble_eq_true rfl) dL_law_676 ⟨(Nat.le_of_ble_eq_true rfl), (Nat.le_of_ble_eq_true rfl)⟩ (fun H1 locs1 hP' hD' hS' => ?_)
  replace hP : va_P (dC, dI) vwCl (fl [(w_X10 aX (0) cs en X), (w_X11 aM (0) cs σ)]) H1 := hP'
  replace hD : va_D (fun q : Nat => s.heap.size ≤ q) (fl [(w_X10 aX (0) cs en X), (w_X11 aM (0) cs σ)]) := hD'
  replace hS := hS'
  exact kk X σ _ _ hRel hP hD hS
set_option maxHeartbeats 4000000 in
set_option maxRecDepth 100000 in
theorem law_vanOf {p : Program} {l : Launch} {e : Env} {s : State} {m : MethodId} {below : List Frame} {meth : Method} {c : Code} {b L : Nat} {xs : Nat → Int32} {dC : Nat → ClassId} {dI : Nat → Nat → Nat} {cs : Nat → ClassId} {aX aM en : Nat → Nat} (C0 : lw_At p s m meth c b L xs) (hL : L ≤ 1536) (hK : va_K (dC, dI) vwCl (tyL cs) s) {i : Nat} (hi : i + 3 ≤ L) {X : T5} {σ : T2} (hRel : Rel X σ) {H : Heap} {locs : List Loc} {ls : Array Slot} (hP : va_P (dC, dI) vwCl (fl [(w_X10 aX (0) cs en X), (w_X11 aM (0) cs σ)]) H) (hD : va_D (fun q : Nat => s.heap.size ≤ q) (fl [(w_X10 aX (0) cs en X), (w_X11 aM (0) cs σ)])) (hS : va_S (fun q : Nat => s.heap.size ≤ q) s.heap H locs) (hl : lv_has ls 4 [(0, .ref b), (1, .ref (aX 0)), (2, .ref (aM 0)), (3, .int (nI i))]) (kk : ∀ (X' : T5) (σ' : T2) (H1 : Heap) (locs1 : List Loc), Rel X' σ' → va_P (dC, dI) vwCl (fl [(w_X10 aX (0) cs en X'), (w_X11 aM (0) cs σ')]) H1 → va_D (fun q : Nat => s.heap.size ≤ q) (fl [(w_X10 aX (0) cs en X'), (w_X11 aM (0) cs σ')]) → va_S (fun q : Nat => s.heap.size ≤ q) s.heap H1 locs1 → W p l e room_1 s m #[Value.ref b] below meth c H1 locs1 213 3262 (lw_Z below #[Value.ref b] s) (F0 m 901 ls [])) : W p l e room_1 s m #[Value.ref b] below meth c H locs 213 3262 (lw_Z below #[Value.ref b] s) (F0 m 698 ls []) := by
  obtain ⟨hx, hb, hr, hml, hown, hts0, hX, hbl, hlocks, hgv⟩ := id C0
  have hown : s.vm.findClass RL = some m.cls := hown
  have hts : ∀ w ∈ wsL_law, w.before #[Value.ref b] s = true := fun w hw => hts0 w (wsL_law_in w hw)
  have hA : ∀ q : Nat, s.heap.size ≤ q → (fun q : Nat => s.heap.size ≤ q) q := fun _ h => h
  have hbA : ¬ (fun q : Nat => s.heap.size ≤ q) b := Nat.not_le.mpr hbl
  have h_1 : vp_in (nI i + nI 1) L := law_in (by omega) hL
  have h_2 : vp_in (nI i + nI 2) L := law_in (by omega) hL
  obtain ⟨r, eX, eM⟩ := r_vanOf hRel (xs (nI i + nI 1).toNatClampNeg) (xs (nI i + nI 2).toNatClampNeg)
  refine lv_aload_n hx hb dL_law_698 rfl (lv_at hl 1 rfl) ?_
  refine lv_aload_n hx hb dL_law_699 rfl (lv_at hl 0 rfl) ?_
  refine lv_iload_n hx hb dL_law_700 rfl (lv_at hl 3 rfl) ?_
  refine lv_iconst (v := nI 1) hx hb dL_law_701 ic_1 ?_
  refine lv_iadd hx hb dL_law_702 ?_
  refine va_sld hx hb hX hbl hbA hS h_1 dL_law_703 ?_
  refine lv_aload_n hx hb dL_law_704 rfl (lv_at hl 0 rfl) ?_
  refine lv_iload_n hx hb dL_law_705 rfl (lv_at hl 3 rfl) ?_
  refine lv_iconst (v := nI 2) hx hb dL_law_706 ic_2 ?_
  refine lv_iadd hx hb dL_law_707 ?_
  refine va_sld hx hb hX hbl hbA hS h_2 dL_law_708 ?_
  refine cl_L (As := [.int (xs (nI i + nI 1).toNatClampNeg), .int (xs (nI i + nI 2).toNatClampNeg)]) (rest := []) (L := [(w_X10 aX (0) cs en X), (w_X11 aM (0) cs σ)]) (L' := [(w_X10 aX (0) cs en X), (w_X11 aM (0) cs σ)]) (Wc := [(w_X10 aX (0) cs en X)]) (Wc' := [(w_X10 aX (0) cs en X)]) (is := [0]) (js := [1]) ⟨hx, hb, hml, hown, hts⟩ (k_X10_vanOf l dC dI cs aX en H.size X (xs (nI i + nI 1).toNatClampNeg) (xs (nI i + nI 2).toNatClampNeg) r eX) (cwV 2 hts gL_law_X10_vanOf rfl rfl rfl cd_X10_vanOf ⟨(Nat.le_of_ble_eq_true rfl), (Nat.le_of_ble_eq_true rfl)⟩) hK hP hD hS hA ⟨rfl, rfl, rfl, rfl, rfl, rfl⟩ (jn_nd (is := [0]) hD rfl rfl) 0 8 rfl rfl rfl rfl rfl hl.1 (Nat.le_of_ble_eq_true rfl) dL_law_709 ⟨(Nat.le_of_ble_eq_true rfl), (Nat.le_of_ble_eq_true rfl)⟩ (fun H1 locs1 hP' hD' hS' => ?_)
  replace hP : va_P (dC, dI) vwCl (fl [(w_X10 aX (0) cs en X), (w_X11 aM (0) cs σ)]) H1 := hP'
  replace hD : va_D (fun q : Nat => s.heap.size ≤ q) (fl [(w_X10 aX (0) cs en X), (w_X11 aM (0) cs σ)]) := hD'
  replace hS := hS'
  exact kk X σ _ _ hRel hP hD hS
set_option maxHeartbeats 4000000 in
set_option maxRecDepth 100000 in
theorem law_count {p : Program} {l : Launch} {e : Env} {s : State} {m : MethodId} {below : List Frame} {meth : Method} {c : Code} {b L : Nat} {xs : Nat → Int32} {dC : Nat → ClassId} {dI : Nat → Nat → Nat} {cs : Nat → ClassId} {aX aM en : Nat → Nat} (C0 : lw_At p s m meth c b L xs) (hL : L ≤ 1536) (hK : va_K (dC, dI) vwCl (tyL cs) s) {i : Nat} (hi : i + 3 ≤ L) {X : T5} {σ : T2} (hRel : Rel X σ) {H : Heap} {locs : List Loc} {ls : Array Slot} (hP : va_P (dC, dI) vwCl (fl [(w_X10 aX (0) cs en X), (w_X11 aM (0) cs σ)]) H) (hD : va_D (fun q : Nat => s.heap.size ≤ q) (fl [(w_X10 aX (0) cs en X), (w_X11 aM (0) cs σ)])) (hS : va_S (fun q : Nat => s.heap.size ≤ q) s.heap H locs) (hl : lv_has ls 4 [(0, .ref b), (1, .ref (aX 0)), (2, .ref (aM 0)), (3, .int (nI i))]) (kk : ∀ (X' : T5) (σ' : T2) (H1 : Heap) (locs1 : List Loc), Rel X' σ' → va_P (dC, dI) vwCl (fl [(w_X10 aX (0) cs en X'), (w_X11 aM (0) cs σ')]) H1 → va_D (fun q : Nat => s.heap.size ≤ q) (fl [(w_X10 aX (0) cs en X'), (w_X11 aM (0) cs σ')]) → va_S (fun q : Nat => s.heap.size ≤ q) s.heap H1 locs1 → W p l e room_1 s m #[Value.ref b] below meth c H1 locs1 213 3262 (lw_Z below #[Value.ref b] s) (F0 m 901 ls [])) : W p l e room_1 s m #[Value.ref b] below meth c H locs 213 3262 (lw_Z below #[Value.ref b] s) (F0 m 731 ls []) := by
  obtain ⟨hx, hb, hr, hml, hown, hts0, hX, hbl, hlocks, hgv⟩ := id C0
  have hown : s.vm.findClass RL = some m.cls := hown
  have hts : ∀ w ∈ wsL_law, w.before #[Value.ref b] s = true := fun w hw => hts0 w (wsL_law_in w hw)
  have hA : ∀ q : Nat, s.heap.size ≤ q → (fun q : Nat => s.heap.size ≤ q) q := fun _ h => h
  have hbA : ¬ (fun q : Nat => s.heap.size ≤ q) b := Nat.not_le.mpr hbl
  have h_1 : vp_in (nI i + nI 1) L := law_in (by omega) hL
  obtain ⟨r, eX, eM⟩ := r_count hRel (xs (nI i + nI 1).toNatClampNeg)
  refine lv_aload_n hx hb dL_law_731 rfl (lv_at hl 1 rfl) ?_
  refine lv_aload_n hx hb dL_law_732 rfl (lv_at hl 0 rfl) ?_
  refine lv_iload_n hx hb dL_law_733 rfl (lv_at hl 3 rfl) ?_
  refine lv_iconst (v := nI 1) hx hb dL_law_734 ic_1 ?_
  refine lv_iadd hx hb dL_law_735 ?_
  refine va_sld hx hb hX hbl hbA hS h_1 dL_law_736 ?_
  refine cl_L (As := [.int (xs (nI i + nI 1).toNatClampNeg)]) (rest := []) (L := [(w_X10 aX (0) cs en X), (w_X11 aM (0) cs σ)]) (L' := [(w_X10 aX (0) cs en X), (w_X11 aM (0) cs σ)]) (Wc := [(w_X10 aX (0) cs en X)]) (Wc' := [(w_X10 aX (0) cs en X)]) (is := [0]) (js := [1]) ⟨hx, hb, hml, hown, hts⟩ (k_X10_count l dC dI cs aX en H.size X (xs (nI i + nI 1).toNatClampNeg) r eX) (cwV 1 hts gL_law_X10_count rfl rfl rfl cd_X10_count ⟨(Nat.le_of_ble_eq_true rfl), (Nat.le_of_ble_eq_true rfl)⟩) hK hP hD hS hA ⟨rfl, rfl, rfl, rfl, rfl, rfl⟩ (jn_nd (is := [0]) hD rfl rfl) 0 8 rfl rfl rfl rfl rfl hl.1 (Nat.le_of_ble_eq_true rfl) dL_law_737 ⟨(Nat.le_of_ble_eq_true rfl), (Nat.le_of_ble_eq_true rfl)⟩ (fun H1 locs1 hP' hD' hS' => ?_)
  replace hP : va_P (dC, dI) vwCl (fl [(w_X10 aX (0) cs en X), (w_X11 aM (0) cs σ)]) H1 := hP'
  replace hD : va_D (fun q : Nat => s.heap.size ≤ q) (fl [(w_X10 aX (0) cs en X), (w_X11 aM (0) cs σ)]) := hD'
  replace hS := hS'
  exact kk X σ _ _ hRel hP hD hS
set_option maxHeartbeats 4000000 in
set_option maxRecDepth 100000 in
theorem law_move {p : Program} {l : Launch} {e : Env} {s : State} {m : MethodId} {below : List Frame} {meth : Method} {c : Code} {b L : Nat} {xs : Nat → Int32} {dC : Nat → ClassId} {dI : Nat → Nat → Nat} {cs : Nat → ClassId} {aX aM en : Nat → Nat} (C0 : lw_At p s m meth c b L xs) (hL : L ≤ 1536) (hK : va_K (dC, dI) vwCl (tyL cs) s) {i : Nat} (hi : i + 3 ≤ L) {X : T5} {σ : T2} (hRel : Rel X σ) {H : Heap} {locs : List Loc} {ls : Array Slot} (hP : va_P (dC, dI) vwCl (fl [(w_X10 aX (0) cs en X), (w_X11 aM (0) cs σ)]) H) (hD : va_D (fun q : Nat => s.heap.size ≤ q) (fl [(w_X10 aX (0) cs en X), (w_X11 aM (0) cs σ)])) (hS : va_S (fun q : Nat => s.heap.size ≤ q) s.heap H locs) (hl : lv_has ls 4 [(0, .ref b), (1, .ref (aX 0)), (2, .ref (aM 0)), (3, .int (nI i))]) (kk : ∀ (X' : T5) (σ' : T2) (H1 : Heap) (locs1 : List Loc), Rel X' σ' → va_P (dC, dI) vwCl (fl [(w_X10 aX (0) cs en X'), (w_X11 aM (0) cs σ')]) H1 → va_D (fun q : Nat => s.heap.size ≤ q) (fl [(w_X10 aX (0) cs en X'), (w_X11 aM (0) cs σ')]) → va_S (fun q : Nat => s.heap.size ≤ q) s.heap H1 locs1 → W p l e room_1 s m #[Value.ref b] below meth c H1 locs1 213 3262 (lw_Z below #[Value.ref b] s) (F0 m 901 ls [])) : W p l e room_1 s m #[Value.ref b] below meth c H locs 213 3262 (lw_Z below #[Value.ref b] s) (F0 m 754 ls []) := by
  obtain ⟨hx, hb, hr, hml, hown, hts0, hX, hbl, hlocks, hgv⟩ := id C0
  have hown : s.vm.findClass RL = some m.cls := hown
  have hts : ∀ w ∈ wsL_law, w.before #[Value.ref b] s = true := fun w hw => hts0 w (wsL_law_in w hw)
  have hA : ∀ q : Nat, s.heap.size ≤ q → (fun q : Nat => s.heap.size ≤ q) q := fun _ h => h
  have hbA : ¬ (fun q : Nat => s.heap.size ≤ q) b := Nat.not_le.mpr hbl
  have h_1 : vp_in (nI i + nI 1) L := law_in (by omega) hL
  obtain ⟨r, X', eX, eM, hRel'⟩ := r_move hRel (xs (nI i + nI 1).toNatClampNeg)
  refine lv_aload_n hx hb dL_law_754 rfl (lv_at hl 1 rfl) ?_
  refine lv_aload_n hx hb dL_law_755 rfl (lv_at hl 0 rfl) ?_
  refine lv_iload_n hx hb dL_law_756 rfl (lv_at hl 3 rfl) ?_
  refine lv_iconst (v := nI 1) hx hb dL_law_757 ic_1 ?_
  refine lv_iadd hx hb dL_law_758 ?_
  refine va_sld hx hb hX hbl hbA hS h_1 dL_law_759 ?_
  refine cl_L (As := [.int (xs (nI i + nI 1).toNatClampNeg)]) (rest := []) (L := [(w_X10 aX (0) cs en X), (w_X11 aM (0) cs σ)]) (L' := [(w_X10 aX (0) cs en X'), (w_X11 aM (0) cs σ)]) (Wc := [(w_X10 aX (0) cs en X)]) (Wc' := [(w_X10 aX (0) cs en X')]) (is := [0]) (js := [1]) ⟨hx, hb, hml, hown, hts⟩ (k_X10_move l dC dI cs aX en H.size X (xs (nI i + nI 1).toNatClampNeg) r X' eX) (cwV 1 hts gL_law_X10_move rfl rfl rfl cd_X10_move ⟨(Nat.le_of_ble_eq_true rfl), (Nat.le_of_ble_eq_true rfl)⟩) hK hP hD hS hA ⟨rfl, rfl, rfl, rfl, rfl, rfl⟩ (jn_nd (is := [0]) hD rfl rfl) 0 8 rfl rfl rfl rfl rfl hl.1 (Nat.le_of_ble_eq_true rfl) dL_law_760 ⟨(Nat.le_of_ble_eq_true rfl), (Nat.le_of_ble_eq_true rfl)⟩ (fun H1 locs1 hP' hD' hS' => ?_)
  replace hP : va_P (dC, dI) vwCl (fl [(w_X10 aX (0) cs en X'), (w_X11 aM (0) cs σ)]) H1 := hP'
  replace hD : va_D (fun q : Nat => s.heap.size ≤ q) (fl [(w_X10 aX (0) cs en X'), (w_X11 aM (0) cs σ)]) := hD'
  replace hS := hS'
  exact kk X' σ _ _ hRel' hP hD hS
set_option maxHeartbeats 4000000 in
set_option maxRecDepth 100000 in
theorem law_evening {p : Program} {l : Launch} {e : Env} {s : State} {m : MethodId} {below : List Frame} {meth : Method} {c : Code} {b L : Nat} {xs : Nat → Int32} {dC : Nat → ClassId} {dI : Nat → Nat → Nat} {cs : Nat → ClassId} {aX aM en : Nat → Nat} (C0 : lw_At p s m meth c b L xs) (hL : L ≤ 1536) (hK : va_K (dC, dI) vwCl (tyL cs) s) {i : Nat} (hi : i + 3 ≤ L) {X : T5} {σ : T2} (hRel : Rel X σ) {H : Heap} {locs : List Loc} {ls : Array Slot} (hP : va_P (dC, dI) vwCl (fl [(w_X10 aX (0) cs en X), (w_X11 aM (0) cs σ)]) H) (hD : va_D (fun q : Nat => s.heap.size ≤ q) (fl [(w_X10 aX (0) cs en X), (w_X11 aM (0) cs σ)])) (hS : va_S (fun q : Nat => s.heap.size ≤ q) s.heap H locs) (hl : lv_has ls 4 [(0, .ref b), (1, .ref (aX 0)), (2, .ref (aM 0)), (3, .int (nI i))]) (kk : ∀ (X' : T5) (σ' : T2) (H1 : Heap) (locs1 : List Loc), Rel X' σ' → va_P (dC, dI) vwCl (fl [(w_X10 aX (0) cs en X'), (w_X11 aM (0) cs σ')]) H1 → va_D (fun q : Nat => s.heap.size ≤ q) (fl [(w_X10 aX (0) cs en X'), (w_X11 aM (0) cs σ')]) → va_S (fun q : Nat => s.heap.size ≤ q) s.heap H1 locs1 → W p l e room_1 s m #[Value.ref b] below meth c H1 locs1 213 3262 (lw_Z below #[Value.ref b] s) (F0 m 901 ls [])) : W p l e room_1 s m #[Value.ref b] below meth c H locs 213 3262 (lw_Z below #[Value.ref b] s) (F0 m 777 ls []) := by
  obtain ⟨hx, hb, hr, hml, hown, hts0, hX, hbl, hlocks, hgv⟩ := id C0
  have hown : s.vm.findClass RL = some m.cls := hown
  have hts : ∀ w ∈ wsL_law, w.before #[Value.ref b] s = true := fun w hw => hts0 w (wsL_law_in w hw)
  have hA : ∀ q : Nat, s.heap.size ≤ q → (fun q : Nat => s.heap.size ≤ q) q := fun _ h => h
  have hbA : ¬ (fun q : Nat => s.heap.size ≤ q) b := Nat.not_le.mpr hbl
  obtain ⟨r, X', eX, eM, hRel'⟩ := r_evening hRel
  refine lv_aload_n hx hb dL_law_777 rfl (lv_at hl 1 rfl) ?_
  refine cl_L (As := []) (rest := []) (L := [(w_X10 aX (0) cs en X), (w_X11 aM (0) cs σ)]) (L' := [(w_X10 aX (0) cs en X'), (w_X11 aM (0) cs σ)]) (Wc := [(w_X10 aX (0) cs en X)]) (Wc' := [(w_X10 aX (0) cs en X')]) (is := [0]) (js := [1]) ⟨hx, hb, hml, hown, hts⟩ (k_X10_evening l dC dI cs aX en H.size X r X' eX) (cwV 0 hts gL_law_X10_evening rfl rfl rfl cd_X10_evening ⟨(Nat.le_of_ble_eq_true rfl), (Nat.le_of_ble_eq_true rfl)⟩) hK hP hD hS hA ⟨rfl, rfl, rfl, rfl, rfl, rfl⟩ (jn_nd (is := [0]) hD rfl rfl) 0 8 rfl rfl rfl rfl rfl hl.1 (Nat.le_of_ble_eq_true rfl) dL_law_778 ⟨(Nat.le_of_ble_eq_true rfl), (Nat.le_of_ble_eq_true rfl)⟩ (fun H1 locs1 hP' hD' hS' => ?_)
  replace hP : va_P (dC, dI) vwCl (fl [(w_X10 aX (0) cs en X'), (w_X11 aM (0) cs σ)]) H1 := hP'
  replace hD : va_D (fun q : Nat => s.heap.size ≤ q) (fl [(w_X10 aX (0) cs en X'), (w_X11 aM (0) cs σ)]) := hD'
  replace hS := hS'
  exact kk X' σ _ _ hRel' hP hD hS
set_option maxHeartbeats 4000000 in
set_option maxRecDepth 100000 in
theorem law_keep {p : Program} {l : Launch} {e : Env} {s : State} {m : MethodId} {below : List Frame} {meth : Method} {c : Code} {b L : Nat} {xs : Nat → Int32} {dC : Nat → ClassId} {dI : Nat → Nat → Nat} {cs : Nat → ClassId} {aX aM en : Nat → Nat} (C0 : lw_At p s m meth c b L xs) (hL : L ≤ 1536) (hK : va_K (dC, dI) vwCl (tyL cs) s) {i : Nat} (hi : i + 3 ≤ L) {X : T5} {σ : T2} (hRel : Rel X σ) {H : Heap} {locs : List Loc} {ls : Array Slot} (hP : va_P (dC, dI) vwCl (fl [(w_X10 aX (0) cs en X), (w_X11 aM (0) cs σ)]) H) (hD : va_D (fun q : Nat => s.heap.size ≤ q) (fl [(w_X10 aX (0) cs en X), (w_X11 aM (0) cs σ)])) (hS : va_S (fun q : Nat => s.heap.size ≤ q) s.heap H locs) (hl : lv_has ls 4 [(0, .ref b), (1, .ref (aX 0)), (2, .ref (aM 0)), (3, .int (nI i))]) (kk : ∀ (X' : T5) (σ' : T2) (H1 : Heap) (locs1 : List Loc), Rel X' σ' → va_P (dC, dI) vwCl (fl [(w_X10 aX (0) cs en X'), (w_X11 aM (0) cs σ')]) H1 → va_D (fun q : Nat => s.heap.size ≤ q) (fl [(w_X10 aX (0) cs en X'), (w_X11 aM (0) cs σ')]) → va_S (fun q : Nat => s.heap.size ≤ q) s.heap H1 locs1 → W p l e room_1 s m #[Value.ref b] below meth c H1 locs1 213 3262 (lw_Z below #[Value.ref b] s) (F0 m 901 ls [])) : W p l e room_1 s m #[Value.ref b] below meth c H locs 213 3262 (lw_Z below #[Value.ref b] s) (F0 m 790 ls []) := by
  obtain ⟨hx, hb, hr, hml, hown, hts0, hX, hbl, hlocks, hgv⟩ := id C0
  have hown : s.vm.findClass RL = some m.cls := hown
  have hts : ∀ w ∈ wsL_law, w.before #[Value.ref b] s = true := fun w hw => hts0 w (wsL_law_in w hw)
  have hA : ∀ q : Nat, s.heap.size ≤ q → (fun q : Nat => s.heap.size ≤ q) q := fun _ h => h
  have hbA : ¬ (fun q : Nat => s.heap.size ≤ q) b := Nat.not_le.mpr hbl
  obtain ⟨r, X', σ', eX, eM, hRel'⟩ := L_keep hRel
  refine lv_aload_n hx hb dL_law_790 rfl (lv_at hl 1 rfl) ?_
  refine cl_L (As := []) (rest := []) (L := [(w_X10 aX (0) cs en X), (w_X11 aM (0) cs σ)]) (L' := [(w_X10 aX (0) cs en X'), (w_X11 aM (0) cs σ)]) (Wc := [(w_X10 aX (0) cs en X)]) (Wc' := [(w_X10 aX (0) cs en X')]) (is := [0]) (js := [1]) ⟨hx, hb, hml, hown, hts⟩ (k_X10_keep l dC dI cs aX en H.size X r X' eX) (cwV 0 hts gL_law_X10_keep rfl rfl rfl cd_X10_keep ⟨(Nat.le_of_ble_eq_true rfl), (Nat.le_of_ble_eq_true rfl)⟩) hK hP hD hS hA ⟨rfl, rfl, rfl, rfl, rfl, rfl⟩ (jn_nd (is := [0]) hD rfl rfl) 0 8 rfl rfl rfl rfl rfl hl.1 (Nat.le_of_ble_eq_true rfl) dL_law_791 ⟨(Nat.le_of_ble_eq_true rfl), (Nat.le_of_ble_eq_true rfl)⟩ (fun H1 locs1 hP' hD' hS' => ?_)
  replace hP : va_P (dC, dI) vwCl (fl [(w_X10 aX (0) cs en X'), (w_X11 aM (0) cs σ)]) H1 := hP'
  replace hD : va_D (fun q : Nat => s.heap.size ≤ q) (fl [(w_X10 aX (0) cs en X'), (w_X11 aM (0) cs σ)]) := hD'
  replace hS := hS'
  exact kk X' σ' _ _ hRel' hP hD hS
set_option maxHeartbeats 4000000 in
set_option maxRecDepth 100000 in
theorem law_restore {p : Program} {l : Launch} {e : Env} {s : State} {m : MethodId} {below : List Frame} {meth : Method} {c : Code} {b L : Nat} {xs : Nat → Int32} {dC : Nat → ClassId} {dI : Nat → Nat → Nat} {cs : Nat → ClassId} {aX aM en : Nat → Nat} (C0 : lw_At p s m meth c b L xs) (hL : L ≤ 1536) (hK : va_K (dC, dI) vwCl (tyL cs) s) {i : Nat} (hi : i + 3 ≤ L) {X : T5} {σ : T2} (hRel : Rel X σ) {H : Heap} {locs : List Loc} {ls : Array Slot} (hP : va_P (dC, dI) vwCl (fl [(w_X10 aX (0) cs en X), (w_X11 aM (0) cs σ)]) H) (hD : va_D (fun q : Nat => s.heap.size ≤ q) (fl [(w_X10 aX (0) cs en X), (w_X11 aM (0) cs σ)])) (hS : va_S (fun q : Nat => s.heap.size ≤ q) s.heap H locs) (hl : lv_has ls 4 [(0, .ref b), (1, .ref (aX 0)), (2, .ref (aM 0)), (3, .int (nI i))]) (kk : ∀ (X' : T5) (σ' : T2) (H1 : Heap) (locs1 : List Loc), Rel X' σ' → va_P (dC, dI) vwCl (fl [(w_X10 aX (0) cs en X'), (w_X11 aM (0) cs σ')]) H1 → va_D (fun q : Nat => s.heap.size ≤ q) (fl [(w_X10 aX (0) cs en X'), (w_X11 aM (0) cs σ')]) → va_S (fun q : Nat => s.heap.size ≤ q) s.heap H1 locs1 → W p l e room_1 s m #[Value.ref b] below meth c H1 locs1 213 3262 (lw_Z below #[Value.ref b] s) (F0 m 901 ls [])) : W p l e room_1 s m #[Value.ref b] below meth c H locs 213 3262 (lw_Z below #[Value.ref b] s) (F0 m 803 ls []) := by
  obtain ⟨hx, hb, hr, hml, hown, hts0, hX, hbl, hlocks, hgv⟩ := id C0
  have hown : s.vm.findClass RL = some m.cls := hown
  have hts : ∀ w ∈ wsL_law, w.before #[Value.ref b] s = true := fun w hw => hts0 w (wsL_law_in w hw)
  have hA : ∀ q : Nat, s.heap.size ≤ q → (fun q : Nat => s.heap.size ≤ q) q := fun _ h => h
  have hbA : ¬ (fun q : Nat => s.heap.size ≤ q) b := Nat.not_le.mpr hbl
  obtain ⟨r, X', σ', eX, eM, hRel'⟩ := L_restore hRel
  refine lv_aload_n hx hb dL_law_803 rfl (lv_at hl 1 rfl) ?_
  refine cl_L (As := []) (rest := []) (L := [(w_X10 aX (0) cs en X), (w_X11 aM (0) cs σ)]) (L' := [(w_X10 aX (0) cs en X'), (w_X11 aM (0) cs σ)]) (Wc := [(w_X10 aX (0) cs en X)]) (Wc' := [(w_X10 aX (0) cs en X')]) (is := [0]) (js := [1]) ⟨hx, hb, hml, hown, hts⟩ (k_X10_restore l dC dI cs aX en H.size X r X' eX) (cwV 0 hts gL_law_X10_restore rfl rfl rfl cd_X10_restore ⟨(Nat.le_of_ble_eq_true rfl), (Nat.le_of_ble_eq_true rfl)⟩) hK hP hD hS hA ⟨rfl, rfl, rfl, rfl, rfl, rfl⟩ (jn_nd (is := [0]) hD rfl rfl) 0 8 rfl rfl rfl rfl rfl hl.1 (Nat.le_of_ble_eq_true rfl) dL_law_804 ⟨(Nat.le_of_ble_eq_true rfl), (Nat.le_of_ble_eq_true rfl)⟩ (fun H1 locs1 hP' hD' hS' => ?_)
  replace hP : va_P (dC, dI) vwCl (fl [(w_X10 aX (0) cs en X'), (w_X11 aM (0) cs σ)]) H1 := hP'
  replace hD : va_D (fun q : Nat => s.heap.size ≤ q) (fl [(w_X10 aX (0) cs en X'), (w_X11 aM (0) cs σ)]) := hD'
  replace hS := hS'
  exact kk X' σ' _ _ hRel' hP hD hS
