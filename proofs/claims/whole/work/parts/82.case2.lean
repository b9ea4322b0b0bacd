set_option maxHeartbeats 4000000 in
set_option maxRecDepth 100000 in
theorem law_bicycleOf {p : Program} {l : Launch} {e : Env} {s : State} {m : MethodId} {below : List Frame} {meth : Method} {c : Code} {b L : Nat} {xs : Nat → Int32} {dC : Nat → ClassId} {dI : Nat → Nat → Nat} {cs : Nat → ClassId} {aX aM en : Nat → Nat} (C0 : lw_At p s m meth c b L xs) (hL : L ≤ 1536) (hK : va_K (dC, dI) vwCl (tyL cs) s) {i : Nat} (hi : i + 3 ≤ L) {X : T5} {σ : T2} (hRel : Rel X σ) {H : Heap} {locs : List Loc} {ls : Array Slot} (hP : va_P (dC, dI) vwCl (fl [(w_X10 aX (0) cs en X), (w_X11 aM (0) cs σ)]) H) (hD : va_D (fun q : Nat => s.heap.size ≤ q) (fl [(w_X10 aX (0) cs en X), (w_X11 aM (0) cs σ)])) (hS : va_S (fun q : Nat => s.heap.size ≤ q) s.heap H locs) (hl : lv_has ls 4 [(0, .ref b), (1, .ref (aX 0)), (2, .ref (aM 0)), (3, .int (nI i))]) (kk : ∀ (X' : T5) (σ' : T2) (H1 : Heap) (locs1 : List Loc), Rel X' σ' → va_P (dC, dI) vwCl (fl [(w_X10 aX (0) cs en X'), (w_X11 aM (0) cs σ')]) H1 → va_D (fun q : Nat => s.heap.size ≤ q) (fl [(w_X10 aX (0) cs en X'), (w_X11 aM (0) cs σ')]) → va_S (fun q : Nat => s.heap.size ≤ q) s.heap H1 locs1 → W p l e room_1 s m #[Value.ref b] below meth c H1 locs1 213 3262 (lw_Z below #[Value.ref b] s) (F0 m 901 ls [])) : W p l e room_1 s m #[Value.ref b] below meth c H locs 213 3262 (lw_Z below #[Value.ref b] s) (F0 m 632 ls []) := by
  obtain ⟨hx, hb, hr, hml, hown, hts0, hX, hbl, hlocks, hgv⟩ := id C0
  have hown : s.vm.findClass RL = some m.cls := hown
  have hts : ∀ w ∈ wsL_law, w.before #[Value.ref b] s = true := fun w hw => hts0 w (wsL_law_in w hw)
  have hA : ∀ q : Nat, s.heap.size ≤ q → (fun q : Nat => s.heap.size ≤ q) q := fun _ h => h
  have hbA : ¬ (fun q : Nat => s.heap.size ≤ q) b := Nat.not_le.mpr hbl
  have h_1 : vp_in (nI i + nI 1) L := law_in (by omega) hL
  have h_2 : vp_in (nI i + nI 2) L := law_in (by omega) hL
  obtain ⟨r, eX, eM⟩ := r_bicycleOf hRel (xs (nI i + nI 1).toNatClampNeg) (xs (nI i + nI 2).toNatClampNeg)
  refine lv_aload_n hx hb dL_law_632 rfl (lv_at hl 1 rfl) ?_
  refine lv_aload_n hx hb dL_law_633 rfl (lv_at hl 0 rfl) ?_
  refine lv_iload_n hx hb dL_law_634 rfl (lv_at hl 3 rfl) ?_
  refine lv_iconst (v := nI 1) hx hb dL_law_635 ic_1 ?_
  refine lv_iadd hx hb dL_law_636 ?_
  refine va_sld hx hb hX hbl hbA hS h_1 dL_law_637 ?_
  refine lv_aload_n hx hb dL_law_638 rfl (lv_at hl 0 rfl) ?_
  refine lv_iload_n hx hb dL_law_639 rfl (lv_at hl 3 rfl) ?_
  refine lv_iconst (v := nI 2) hx hb dL_law_640 ic_2 ?_
  refine lv_iadd hx hb dL_law_641 ?_
  refine va_sld hx hb hX hbl hbA hS h_2 dL_law_642 ?_
  refine cl_L (As := [.int (xs (nI i + nI 1).toNatClampNeg), .int (xs (nI i + nI 2).toNatClampNeg)]) (rest := []) (L := [(w_X10 aX (0) cs en X), (w_X11 aM (0) cs σ)]) (L' := [(w_X10 aX (0) cs en X), (w_X11 aM (0) cs σ)]) (Wc := [(w_X10 aX (0) cs en X)]) (Wc' := [(w_X10 aX (0) cs en X)]) (is := [0]) (js := [1]) ⟨hx, hb, hml, hown, hts⟩ (k_X10_bicycleOf l dC dI cs aX en H.size X (xs (nI i + nI 1).toNatClampNeg) (xs (nI i + nI 2).toNatClampNeg) r eX) (cwV 2 hts gL_law_X10_bicycleOf rfl rfl rfl cd_X10_bicycleOf ⟨(Nat.le_of_ble_eq_true rfl), (Nat.le_of_ble_eq_true rfl)⟩) hK hP hD hS hA ⟨rfl, rfl, rfl, rfl, rfl, rfl⟩ (jn_nd (is := [0]) hD rfl rfl) 0 8 rfl rfl rfl rfl rfl hl.1 (Nat.le_of_ble_eq_true rfl) dL_law_643 ⟨(Nat.le_of_ble_eq_true rfl), (Nat.le_of_ble_eq_true rfl)⟩ (fun H1 locs1 hP' hD' hS' => ?_)
  replace hP : va_P (dC, dI) vwCl (fl [(w_X10 aX (0) cs en X), (w_X11 aM (0) cs σ)]) H1 := hP'
  replace hD : va_D (fun q : Nat => s.heap.size ≤ q) (fl [(w_X10 aX (0) cs en X), (w_X11 aM (0) cs σ)]) := hD'
  replace hS := hS'
  clear hP' hD' hS'
  refine lv_aload_n hx hb dL_law_646 rfl (lv_at hl 2 rfl) ?_
  refine lv_aload_n hx hb dL_law_647 rfl (lv_at hl 0 rfl) ?_
  refine lv_iload_n hx hb dL_law_648 rfl (lv_at hl 3 rfl) ?_
  refine lv_iconst (v := nI 1) hx hb dL_law_649 ic_1 ?_
  refine lv_iadd hx hb dL_law_650 ?_
  refine va_sld hx hb hX hbl hbA hS h_1 dL_law_651 ?_
  refine lv_aload_n hx hb dL_law_652 rfl (lv_at hl 0 rfl) ?_
  refine lv_iload_n hx hb dL_law_653 rfl (lv_at hl 3 rfl) ?_
  refine lv_iconst (v := nI 2) hx hb dL_law_654 ic_2 ?_
  refine lv_iadd hx hb dL_law_655 ?_
  refine va_sld hx hb hX hbl hbA hS h_2 dL_law_656 ?_
  refine cl_L (As := [.int (xs (nI i + nI 1).toNatClampNeg), .int (xs (nI i + nI 2).toNatClampNeg)]) (rest := [.int r]) (L := [(w_X10 aX (0) cs en X), (w_X11 aM (0) cs σ)]) (L' := [(w_X10 aX (0) cs en X), (w_X11 aM (0) cs σ)]) (Wc := [(w_X11 aM (0) cs σ)]) (Wc' := [(w_X11 aM (0) cs σ)]) (is := [1]) (js := [0]) ⟨hx, hb, hml, hown, hts⟩ (k_X11_bicycleOf l dC dI cs aM (0) H1.size σ (xs (nI i + nI 1).toNatClampNeg) (xs (nI i + nI 2).toNatClampNeg) r eM) (cwV 2 hts gL_law_X11_bicycleOf rfl rfl rfl cd_X11_bicycleOf ⟨(Nat.le_of_ble_eq_true rfl), (Nat.le_of_ble_eq_true rfl)⟩) hK hP hD hS hA ⟨rfl, rfl, rfl, rfl, rfl, rfl⟩ (jn_nd (is := [1]) hD rfl rfl) 206 9 rfl rfl rfl rfl rfl hl.1 (Nat.le_of_ble_eq_true rfl) dL_law_657 ⟨(Nat.le_of_ble_eq_true rfl), (Nat.le_of_ble_eq_true rfl)⟩ (fun H2 locs2 hP' hD' hS' => ?_)
  replace hP : va_P (dC, dI) vwCl (fl [(w_X10 aX (0) cs en X), (w_X11 aM (0) cs σ)]) H2 := hP'
  replace hD : va_D (fun q : Nat => s.heap.size ≤ q) (fl [(w_X10 aX (0) cs en X), (w_X11 aM (0) cs σ)]) := hD'
  replace hS := hS'
  clear hP' hD' hS'
  refine lv_icmp_eq (tgt := 901) hx hb dL_law_660 (by decide) (fun _ => ?_) (fun c9 => absurd rfl c9)
  exact kk X σ _ _ hRel hP hD hS
set_option maxHeartbeats 4000000 in
set_option maxRecDepth 100000 in
theorem law_riderOf {p : Program} {l : Launch} {e : Env} {s : State} {m : MethodId} {below : List Frame} {meth : Method} {c : Code} {b L : Nat} {xs : Nat → Int32} {dC : Nat → ClassId} {dI : Nat → Nat → Nat} {cs : Nat → ClassId} {aX aM en : Nat → Nat} (C0 : lw_At p s m meth c b L xs) (hL : L ≤ 1536) (hK : va_K (dC, dI) vwCl (tyL cs) s) {i : Nat} (hi : i + 3 ≤ L) {X : T5} {σ : T2} (hRel : Rel X σ) {H : Heap} {locs : List Loc} {ls : Array Slot} (hP : va_P (dC, dI) vwCl (fl [(w_X10 aX (0) cs en X), (w_X11 aM (0) cs σ)]) H) (hD : va_D (fun q : Nat => s.heap.size ≤ q) (fl [(w_X10 aX (0) cs en X), (w_X11 aM (0) cs σ)])) (hS : va_S (fun q : Nat => s.heap.size ≤ q) s.heap H locs) (hl : lv_has ls 4 [(0, .ref b), (1, .ref (aX 0)), (2, .ref (aM 0)), (3, .int (nI i))]) (kk : ∀ (X' : T5) (σ' : T2) (H1 : Heap) (locs1 : List Loc), Rel X' σ' → va_P (dC, dI) vwCl (fl [(w_X10 aX (0) cs en X'), (w_X11 aM (0) cs σ')]) H1 → va_D (fun q : Nat => s.heap.size ≤ q) (fl [(w_X10 aX (0) cs en X'), (w_X11 aM (0) cs σ')]) → va_S (fun q : Nat => s.heap.size ≤ q) s.heap H1 locs1 → W p l e room_1 s m #[Value.ref b] below meth c H1 locs1 213 3262 (lw_Z below #[Value.ref b] s) (F0 m 901 ls [])) : W p l e room_1 s m #[Value.ref b] below meth c H locs 213 3262 (lw_Z below #[Value.ref b] s) (F0 m 665 ls []) := by
  obtain ⟨hx, hb, hr, hml, hown, hts0, hX, hbl, hlocks, hgv⟩ := id C0
  have hown : s.vm.findClass RL = some m.cls := hown
  have hts : ∀ w ∈ wsL_law, w.before #[Value.ref b] s = true := fun w hw => hts0 w (wsL_law_in w hw)
  have hA : ∀ q : Nat, s.heap.size ≤ q → (fun q : Nat => s.heap.size ≤ q) q := fun _ h => h
  have hbA : ¬ (fun q : Nat => s.heap.size ≤ q) b := Nat.not_le.mpr hbl
  have h_1 : vp_in (nI i + nI 1) L := law_in (by omega) hL
  have h_2 : vp_in (nI i + nI 2) L := law_in (by omega) hL
  obtain ⟨r, eX, eM⟩ := r_riderOf hRel (xs (nI i + nI 1).toNatClampNeg) (xs (nI i + nI 2).toNatClampNeg)
  refine lv_aload_n hx hb dL_law_665 rfl (lv_at hl 1 rfl) ?_
  refine lv_aload_n hx hb dL_law_666 rfl (lv_at hl 0 rfl) ?_
  refine lv_iload_n hx hb dL_law_667 rfl (lv_at hl 3 rfl) ?_
  refine lv_iconst (v := nI 1) hx hb dL_law_668 ic_1 ?_
  refine lv_iadd hx hb dL_law_669 ?_
  refine va_sld hx hb hX hbl hbA hS h_1 dL_law_670 ?_
  refine lv_aload_n hx hb dL_law_671 rfl (lv_at hl 0 rfl) ?_
  refine lv_iload_n hx hb dL_law_672 rfl (lv_at hl 3 rfl) ?_
  refine lv_iconst (v := nI 2) hx hb dL_law_673 ic_2 ?_
  refine lv_iadd hx hb dL_law_674 ?_
  refine va_sld hx hb hX hbl hbA hS h_2 dL_law_675 ?_
  refine cl_L (As := [.int (xs (nI i + nI 1).toNatClampNeg), .int (xs (nI i + nI 2).toNatClampNeg)]) (rest := []) (L := [(w_X10 aX (0) cs en X), (w_X11 aM (0) cs σ)]) (L' := [(w_X10 aX (0) cs en X), (w_X11 aM (0) cs σ)]) (Wc := [(w_X10 aX (0) cs en X)]) (Wc' := [(w_X10 aX (0) cs en X)]) (is := [0]) (js := [1]) ⟨hx, hb, hml, hown, hts⟩ (k_X10_riderOf l dC dI cs aX en H.size X (xs (nI i + nI 1).toNatClampNeg) (xs (nI i + nI 2).toNatClampNeg) r eX) (cwV 2 hts gL_law_X10_riderOf rfl rfl rfl cd_X10_riderOf ⟨(Nat.le_of_ble_eq_true rfl), (Nat.le_of_ble_eq_true rfl)⟩) hK hP hD hS hA ⟨rfl, rfl, rfl, rfl, rfl, rfl⟩ (jn_nd (is := [0]) hD rfl rfl) 0 8 rfl rfl rfl rfl rfl hl.1 (Nat.le_of_ble_eq_true rfl) dL_law_676 ⟨(Nat.le_of_ble_eq_true rfl), (Nat.le_of_ble_eq_true rfl)⟩ (fun H1 locs1 hP' hD' hS' => ?_)
  replace hP : va_P (dC, dI) vwCl (fl [(w_X10 aX (0) cs en X), (w_X11 aM (0) cs σ)]) H1 := hP'
  replace hD : va_D (fun q : Nat => s.heap.size ≤ q) (fl [(w_X10 aX (0) cs en X), (w_X11 aM (0) cs σ)]) := hD'
  replace hS := hS'
  clear hP' hD' hS'
  refine lv_aload_n hx hb dL_law_679 rfl (lv_at hl 2 rfl) ?_
  refine lv_aload_n hx hb dL_law_680 rfl (lv_at hl 0 rfl) ?_
  refine lv_iload_n hx hb dL_law_681 rfl (lv_at hl 3 rfl) ?_
  refine lv_iconst (v := nI 1) hx hb dL_law_682 ic_1 ?_
  refine lv_iadd hx hb dL_law_683 ?_
  refine va_sld hx hb hX hbl hbA hS h_1 dL_law_684 ?_
  refine lv_aload_n hx hb dL_law_685 rfl (lv_at hl 0 rfl) ?_
  refine lv_iload_n hx hb dL_law_686 rfl (lv_at hl 3 rfl) ?_
  refine lv_iconst (v := nI 2) hx hb dL_law_687 ic_2 ?_
  refine lv_iadd hx hb dL_law_688 ?_
  refine va_sld hx hb hX hbl hbA hS h_2 dL_law_689 ?_
  refine cl_L (As := [.int (xs (nI i + nI 1).toNatClampNeg), .int (xs (nI i + nI 2).toNatClampNeg)]) (rest := [.int r]) (L := [(w_X10 aX (0) cs en X), (w_X11 aM (0) cs σ)]) (L' := [(w_X10 aX (0) cs en X), (w_X11 aM (0) cs σ)]) (Wc := [(w_X11 aM (0) cs σ)]) (Wc' := [(w_X11 aM (0) cs σ)]) (is := [1]) (js := [0]) ⟨hx, hb, hml, hown, hts⟩ (k_X11_riderOf l dC dI cs aM (0) H1.size σ (xs (nI i + nI 1).toNatClampNeg) (xs (nI i + nI 2).toNatClampNeg) r eM) (cwV 2 hts gL_law_X11_riderOf rfl rfl rfl cd_X11_riderOf ⟨(Nat.le_of_ble_eq_true rfl), (Nat.le_of_ble_eq_true rfl)⟩) hK hP hD hS hA ⟨rfl, rfl, rfl, rfl, rfl, rfl⟩ (jn_nd (is := [1]) hD rfl rfl) 206 9 rfl rfl rfl rfl rfl hl.1 (Nat.le_of_ble_eq_true rfl) dL_law_690 ⟨(Nat.le_of_ble_eq_true rfl), (Nat.le_of_ble_eq_true rfl)⟩ (fun H2 locs2 hP' hD' hS' => ?_)
  replace hP : va_P (dC, dI) vwCl (fl [(w_X10 aX (0) cs en X), (w_X11 aM (0) cs σ)]) H2 := hP'
  replace hD : va_D (fun q : Nat => s.heap.size ≤ q) (fl [(w_X10 aX (0) cs en X), (w_X11 aM (0) cs σ)]) := hD'
  replace hS := hS'
  clear hP' hD' hS'
  refine lv_icmp_eq (tgt := 901) hx hb dL_law_693 (by decide) (fun _ => ?_) (fun c9 => absurd rfl c9)
  exact kk X σ _ _ hRel hP hD hS
set_option maxHeartbeats 4000000 in
set_option maxRecDepth 100000 in
theorem law_vanOf {p : Program} {l : Launch} {e : Env} {s : State} {m : MethodId} {below : List Frame} {meth : Method} {c : Code} {b L : Nat} {xs : Nat → Int32} {dC : Nat → ClassId} {dI : Nat → Nat → Nat} {cs : Nat → ClassId} {aX aM en : Nat → Nat} (C0 : lw_At p s m meth c b L xs) (hL : L ≤ 1536) (hK : va_K (dC, dI) vwCl (tyL cs) s) {i : Nat} (hi : i + 3 ≤ L) {X : T5} {σ : T2} (hRel : Rel X σ) {H : Heap} {locs : List Loc} {ls : Array Slot} (hP : va_P (dC, dI) vwCl (fl [(w_X10 aX (0) cs en X), (w_X11 aM (0) cs σ)]) H) (hD : va_D (fun q : Nat => s.heap.size ≤ q) (fl [(w_X10 aX (0) cs en X), (w_X11 aM (0) cs σ)])) (hS : va_S (fun q : Nat => s.heap.size ≤ q) s.heap H locs) (hl : lv_has ls 4 [(0, .ref b), (1, .ref (aX 0)), (2, .ref (aM 0)), (3, .int (nI i))]) (kk : ∀ (X' : T5) (σ' : T2) (H1 : Heap) (locs1 : List Loc), Rel X' σ' → va_P (dC, dI) vwCl (fl [(w_X10 aX (0) cs en X'), (w_X11 aM (0) cs σ')]) H1 → va_D (fun q : Nat => s.heap.size ≤ q) (fl [(w_X10 aX (0) cs en X'), (w_X11 aM (0) cs σ')]) → va_S (fun q : Nat => s.heap.size ≤ q) s.heap H1 locs1 → W p l e room_1 s m #[Value.ref b] below meth c H1 locs1 213 3262 (lw_Z below #[Value.ref b] s) (F0 m 901 ls [])) : W p l e room_1 s m #[Value.ref b] below meth c H locs 213 3262 (lw_Z below #[Value.ref b] s) (F0 m 698 ls []) := by
  obtain ⟨hx, hb, hr, hml, hown, hts0, hX, hbl, hlocks, hgv⟩ := id C0
  have hown : s.vm.findClass RL = some m.cls := hown
  have hts : ∀ w ∈ wsL_law, w.before #[Value.ref b] s = true := fun w hw => hts0 w (wsL_law_in w hw)
  have hA : ∀ q : Nat, s.heap.size ≤ q → (fun q : Nat => s.heap.size ≤ q) q := fun _ h => h
  have hbA : ¬ (fun q : Nat => s.heap.size ≤ q) b := Nat.not_le.mpr hbl
  have h_1 : vp_in (nI i + nI 1) L := law_in (by omega) hL
  have h_2 : vp_in (nI i + nI 2) L := law_in (by omega) hL
  obtain ⟨r, eX, eM⟩ := r_vanOf hRel (xs (nI i + nI 1).toNatClampNeg) (xs (nI i + nI 2).toNatClampNeg)
  refine lv_aload_n hx hb dL_law_698 rfl (lv_at hl 1 rfl) ?_
  refine lv_aload_n hx hb dL_law_699 rfl (lv_at hl 0 rfl) ?_
  refine lv_iload_n hx hb dL_law_700 rfl (lv_at hl 3 rfl) ?_
  refine lv_iconst (v := nI 1) hx hb dL_law_701 ic_1 ?_
  refine lv_iadd hx hb dL_law_702 ?_
  refine va_sld hx hb hX hbl hbA hS h_1 dL_law_703 ?_
  refine lv_aload_n hx hb dL_law_704 rfl (lv_at hl 0 rfl) ?_
  refine lv_iload_n hx hb dL_law_705 rfl (lv_at hl 3 rfl) ?_
  refine lv_iconst (v := nI 2) hx hb dL_law_706 ic_2 ?_
  refine lv_iadd hx hb dL_law_707 ?_
  refine va_sld hx hb hX hbl hbA hS h_2 dL_law_708 ?_
  refine cl_L (As := [.int (xs (nI i + nI 1).toNatClampNeg), .int (xs (nI i + nI 2).toNatClampNeg)]) (rest := []) (L := [(w_X10 aX (0) cs en X), (w_X11 aM (0) cs σ)]) (L' := [(w_X10 aX (0) cs en X), (w_X11 aM (0) cs σ)]) (Wc := [(w_X10 aX (0) cs en X)]) (Wc' := [(w_X10 aX (0) cs en X)]) (is := [0]) (js := [1]) ⟨hx, hb, hml, hown, hts⟩ (k_X10_vanOf l dC dI cs aX en H.size X (xs (nI i + nI 1).toNatClampNeg) (xs (nI i + nI 2).toNatClampNeg) r eX) (cwV 2 hts gL_law_X10_vanOf rfl rfl rfl cd_X10_vanOf ⟨(Nat.le_of_ble_eq_true rfl), (Nat.le_of_ble_eq_true rfl)⟩) hK hP hD hS hA ⟨rfl, rfl, rfl, rfl, rfl, rfl⟩ (jn_nd (is := [0]) hD rfl rfl) 0 8 rfl rfl rfl rfl rfl hl.1 (Nat.le_of_ble_eq_true rfl) dL_law_709 ⟨(Nat.le_of_ble_eq_true rfl), (Nat.le_of_ble_eq_true rfl)⟩ (fun H1 locs1 hP' hD' hS' => ?_)
  replace hP : va_P (dC, dI) vwCl (fl [(w_X10 aX (0) cs en X), (w_X11 aM (0) cs σ)]) H1 := hP'
  replace hD : va_D (fun q : Nat => s.heap.size ≤ q) (fl [(w_X10 aX (0) cs en X), (w_X11 aM (0) cs σ)]) := hD'
  replace hS := hS'
  clear hP' hD' hS'
  refine lv_aload_n hx hb dL_law_712 rfl (lv_at hl 2 rfl) ?_
  refine lv_aload_n hx hb dL_law_713 rfl (lv_at hl 0 rfl) ?_
  refine lv_iload_n hx hb dL_law_714 rfl (lv_at hl 3 rfl) ?_
  refine lv_iconst (v := nI 1) hx hb dL_law_715 ic_1 ?_
  refine lv_iadd hx hb dL_law_716 ?_
  refine va_sld hx hb hX hbl hbA hS h_1 dL_law_717 ?_
  refine lv_aload_n hx hb dL_law_718 rfl (lv_at hl 0 rfl) ?_
  refine lv_iload_n hx hb dL_law_719 rfl (lv_at hl 3 rfl) ?_
  refine lv_iconst (v := nI 2) hx hb dL_law_720 ic_2 ?_
  refine lv_iadd hx hb dL_law_721 ?_
  refine va_sld hx hb hX hbl hbA hS h_2 dL_law_722 ?_
  refine cl_L (As := [.int (xs (nI i + nI 1).toNatClampNeg), .int (xs (nI i + nI 2).toNatClampNeg)]) (rest := [.int r]) (L := [(w_X10 aX (0) cs en X), (w_X11 aM (0) cs σ)]) (L' := [(w_X10 aX (0) cs en X), (w_X11 aM (0) cs σ)]) (Wc := [(w_X11 aM (0) cs σ)]) (Wc' := [(w_X11 aM (0) cs σ)]) (is := [1]) (js := [0]) ⟨hx, hb, hml, hown, hts⟩ (k_X11_vanOf l dC dI cs aM (0) H1.size σ (xs (nI i + nI 1).toNatClampNeg) (xs (nI i + nI 2).toNatClampNeg) r eM) (cwV 2 hts gL_law_X11_vanOf rfl rfl rfl cd_X11_vanOf ⟨(Nat.le_of_ble_eq_true rfl), (Nat.le_of_ble_eq_true rfl)⟩) hK hP hD hS hA ⟨rfl, rfl, rfl, rfl, rfl, rfl⟩ (jn_nd (is := [1]) hD rfl rfl) 206 9 rfl rfl rfl rfl rfl hl.1 (Nat.le_of_ble_eq_true rfl) dL_law_723 ⟨(Nat.le_of_ble_eq_true rfl), (Nat.le_of_ble_eq_true rfl)⟩ (fun H2 locs2 hP' hD' hS' => ?_)
  replace hP : va_P (dC, dI) vwCl (fl [(w_X10 aX (0) cs en X), (w_X11 aM (0) cs σ)]) H2 := hP'
  replace hD : va_D (fun q : Nat => s.heap.size ≤ q) (fl [(w_X10 aX (0) cs en X), (w_X11 aM (0) cs σ)]) := hD'
  replace hS := hS'
  clear hP' hD' hS'
  refine lv_icmp_eq (tgt := 901) hx hb dL_law_726 (by decide) (fun _ => ?_) (fun c9 => absurd rfl c9)
  exact kk X σ _ _ hRel hP hD hS
set_option maxHeartbeats 4000000 in
set_option maxRecDepth 100000 in
theorem law_count {p : Program} {l : Launch} {e : Env} {s : State} {m : MethodId} {below : List Frame} {meth : Method} {c : Code} {b L : Nat} {xs : Nat → Int32} {dC : Nat → ClassId} {dI : Nat → Nat → Nat} {cs : Nat → ClassId} {aX aM en : Nat → Nat} (C0 : lw_At p s m meth c b L xs) (hL : L ≤ 1536) (hK : va_K (dC, dI) vwCl (tyL cs) s) {i : Nat} (hi : i + 3 ≤ L) {X : T5} {σ : T2} (hRel : Rel X σ) {H : Heap} {locs : List Loc} {ls : Array Slot} (hP : va_P (dC, dI) vwCl (fl [(w_X10 aX (0) cs en X), (w_X11 aM (0) cs σ)]) H) (hD : va_D (fun q : Nat => s.heap.size ≤ q) (fl [(w_X10 aX (0) cs en X), (w_X11 aM (0) cs σ)])) (hS : va_S (fun q : Nat => s.heap.size ≤ q) s.heap H locs) (hl : lv_has ls 4 [(0, .ref b), (1, .ref (aX 0)), (2, .ref (aM 0)), (3, .int (nI i))]) (kk : ∀ (X' : T5) (σ' : T2) (H1 : Heap) (locs1 : List Loc), Rel X' σ' → va_P (dC, dI) vwCl (fl [(w_X10 aX (0) cs en X'), (w_X11 aM (0) cs σ')]) H1 → va_D (fun q : Nat => s.heap.size ≤ q) (fl [(w_X10 aX (0) cs en X'), (w_X11 aM (0) cs σ')]) → va_S (fun q : Nat => s.heap.size ≤ q) s.heap H1 locs1 → W p l e room_1 s m #[Value.ref b] below meth c H1 locs1 213 3262 (lw_Z below #[Value.ref b] s) (F0 m 901 ls [])) : W p l e room_1 s m #[Value.ref b] below meth c H locs 213 3262 (lw_Z below #[Value.ref b] s) (F0 m 731 ls []) := by
  obtain ⟨hx, hb, hr, hml, hown, hts0, hX, hbl, hlocks, hgv⟩ := id C0
  have hown : s.vm.findClass RL = some m.cls := hown
  have hts : ∀ w ∈ wsL_law, w.before #[Value.ref b] s = true := fun w hw => hts0 w (wsL_law_in w hw)
  have hA : ∀ q : Nat, s.heap.size ≤ q → (fun q : Nat => s.heap.size ≤ q) q := fun _ h => h
  have hbA : ¬ (fun q : Nat => s.heap.size ≤ q) b := Nat.not_le.mpr hbl
  have h_1 : vp_in (nI i + nI 1) L := law_in (by omega) hL
  obtain ⟨r, eX, eM⟩ := r_count hRel (xs (nI i + nI 1).toNatClampNeg)
  refine lv_aload_n hx hb dL_law_731 rfl (lv_at hl 1 rfl) ?_
  refine lv_aload_n hx hb dL_law_732 rfl (lv_at hl 0 rfl) ?_
  refine lv_iload_n hx hb dL_law_733 rfl (lv_at hl 3 rfl) ?_
  refine lv_iconst (v := nI 1) hx hb dL_law_734 ic_1 ?_
  refine lv_iadd hx hb dL_law_735 ?_
  refine va_sld hx hb hX hbl hbA hS h_1 dL_law_736 ?_
  refine cl_L (As := [.int (xs (nI i + nI 1).toNatClampNeg)]) (rest := []) (L := [(w_X10 aX (0) cs en X), (w_X11 aM (0) cs σ)]) (L' := [(w_X10 aX (0) cs en X), (w_X11 aM (0) cs σ)]) (Wc := [(w_X10 aX (0) cs en X)]) (Wc' := [(w_X10 aX (0) cs en X)]) (is := [0]) (js := [1]) ⟨hx, hb, hml, hown, hts⟩ (k_X10_count l dC dI cs aX en H.size X (xs (nI i + nI 1).toNatClampNeg) r eX) (cwV 1 hts gL_law_X10_count rfl rfl rfl cd_X10_count ⟨(Nat.le_of_ble_eq_true rfl), (Nat.le_of_ble_eq_true rfl)⟩) hK hP hD hS hA ⟨rfl, rfl, rfl, rfl, rfl, rfl⟩ (jn_nd (is := [0]) hD rfl rfl) 0 8 rfl rfl rfl rfl rfl hl.1 (Nat.le_of_ble_eq_true rfl) dL_law_737 ⟨(Nat.le_of_ble_eq_true rfl), (Nat.le_of_ble_eq_true rfl)⟩ (fun H1 locs1 hP' hD' hS' => ?_)
  replace hP : va_P (dC, dI) vwCl (fl [(w_X10 aX (0) cs en X), (w_X11 aM (0) cs σ)]) H1 := hP'
  replace hD : va_D (fun q : Nat => s.heap.size ≤ q) (fl [(w_X10 aX (0) cs en X), (w_X11 aM (0) cs σ)]) := hD'
  replace hS := hS'
  clear hP' hD' hS'
  refine lv_aload_n hx hb dL_law_740 rfl (lv_at hl 2 rfl) ?_
  refine lv_aload_n hx hb dL_law_741 rfl (lv_at hl 0 rfl) ?_
  refine lv_iload_n hx hb dL_law_742 rfl (lv_at hl 3 rfl) ?_
  refine lv_iconst (v := nI 1) hx hb dL_law_743 ic_1 ?_
  refine lv_iadd hx hb dL_law_744 ?_
  refine va_sld hx hb hX hbl hbA hS h_1 dL_law_745 ?_
  refine cl_L (As := [.int (xs (nI i + nI 1).toNatClampNeg)]) (rest := [.int r]) (L := [(w_X10 aX (0) cs en X), (w_X11 aM (0) cs σ)]) (L' := [(w_X10 aX (0) cs en X), (w_X11 aM (0) cs σ)]) (Wc := [(w_X11 aM (0) cs σ)]) (Wc' := [(w_X11 aM (0) cs σ)]) (is := [1]) (js := [0]) ⟨hx, hb, hml, hown, hts⟩ (k_X11_count l dC dI cs aM (0) H1.size σ (xs (nI i + nI 1).toNatClampNeg) r eM) (cwV 1 hts gL_law_X11_count rfl rfl rfl cd_X11_count ⟨(Nat.le_of_ble_eq_true rfl), (Nat.le_of_ble_eq_true rfl)⟩) hK hP hD hS hA ⟨rfl, rfl, rfl, rfl, rfl, rfl⟩ (jn_nd (is := [1]) hD rfl rfl) 206 9 rfl rfl rfl rfl rfl hl.1 (Nat.le_of_ble_eq_true rfl) dL_law_746 ⟨(Nat.le_of_ble_eq_true rfl), (Nat.le_of_ble_eq_true rfl)⟩ (fun H2 locs2 hP' hD' hS' => ?_)
  replace hP : va_P (dC, dI) vwCl (fl [(w_X10 aX (0) cs en X), (w_X11 aM (0) cs σ)]) H2 := hP'
  replace hD : va_D (fun q : Nat => s.heap.size ≤ q) (fl [(w_X10 aX (0) cs en X), (w_X11 aM (0) cs σ)]) := hD'
  replace hS := hS'
  clear hP' hD' hS'
  refine lv_icmp_eq (tgt := 901) hx hb dL_law_749 (by decide) (fun _ => ?_) (fun c9 => absurd rfl c9)
  exact kk X σ _ _ hRel hP hD hS
set_option maxHeartbeats 4000000 in
set_option maxRecDepth 100000 in
theorem law_move {p : Program} {l : Launch} {e : Env} {s : State} {m : MethodId} {below : List Frame} {meth : Method} {c : Code} {b L : Nat} {xs : Nat → Int32} {dC : Nat → ClassId} {dI : Nat → Nat → Nat} {cs : Nat → ClassId} {aX aM en : Nat → Nat} (C0 : lw_At p s m meth c b L xs) (hL : L ≤ 1536) (hK : va_K (dC, dI) vwCl (tyL cs) s) {i : Nat} (hi : i + 3 ≤ L) {X : T5} {σ : T2} (hRel : Rel X σ) {H : Heap} {locs : List Loc} {ls : Array Slot} (hP : va_P (dC, dI) vwCl (fl [(w_X10 aX (0) cs en X), (w_X11 aM (0) cs σ)]) H) (hD : va_D (fun q : Nat => s.heap.size ≤ q) (fl [(w_X10 aX (0) cs en X), (w_X11 aM (0) cs σ)])) (hS : va_S (fun q : Nat => s.heap.size ≤ q) s.heap H locs) (hl : lv_has ls 4 [(0, .ref b), (1, .ref (aX 0)), (2, .ref (aM 0)), (3, .int (nI i))]) (kk : ∀ (X' : T5) (σ' : T2) (H1 : Heap) (locs1 : List Loc), Rel X' σ' → va_P (dC, dI) vwCl (fl [(w_X10 aX (0) cs en X'), (w_X11 aM (0) cs σ')]) H1 → va_D (fun q : Nat => s.heap.size ≤ q) (fl [(w_X10 aX (0) cs en X'), (w_X11 aM (0) cs σ')]) → va_S (fun q : Nat => s.heap.size ≤ q) s.heap H1 locs1 → W p l e room_1 s m #[Value.ref b] below meth c H1 locs1 213 3262 (lw_Z below #[Value.ref b] s) (F0 m 901 ls [])) : W p l e room_1 s m #[Value.ref b] below meth c H locs 213 3262 (lw_Z below #[Value.ref b] s) (F0 m 754 ls []) := by
  obtain ⟨hx, hb, hr, hml, hown, hts0, hX, hbl, hlocks, hgv⟩ := id C0
  have hown : s.vm.findClass RL = some m.cls := hown
  have hts : ∀ w ∈ wsL_law, w.before #[Value.ref b] s = true := fun w hw => hts0 w (wsL_law_in w hw)
  have hA : ∀ q : Nat, s.heap.size ≤ q → (fun q : Nat => s.heap.size ≤ q) q := fun _ h => h
  have hbA : ¬ (fun q : Nat => s.heap.size ≤ q) b := Nat.not_le.mpr hbl
  have h_1 : vp_in (nI i + nI 1) L := law_in (by omega) hL
  obtain ⟨r, X', eX, eM, hRel'⟩ := r_move hRel (xs (nI i + nI 1).toNatClampNeg)
  refine lv_aload_n hx hb dL_law_754 rfl (lv_at hl 1 rfl) ?_
  refine lv_aload_n hx hb dL_law_755 rfl (lv_at hl 0 rfl) ?_
  refine lv_iload_n hx hb dL_law_756 rfl (lv_at hl 3 rfl) ?_
  refine lv_iconst (v := nI 1) hx hb dL_law_757 ic_1 ?_
  refine lv_iadd hx hb dL_law_758 ?_
  refine va_sld hx hb hX hbl hbA hS h_1 dL_law_759 ?_
  refine cl_L (As := [.int (xs (nI i + nI 1).toNatClampNeg)]) (rest := []) (L := [(w_X10 aX (0) cs en X), (w_X11 aM (0) cs σ)]) (L' := [(w_X10 aX (0) cs en X'), (w_X11 aM (0) cs σ)]) (Wc := [(w_X10 aX (0) cs en X)]) (Wc' := [(w_X10 aX (0) cs en X')]) (is := [0]) (js := [1]) ⟨hx, hb, hml, hown, hts⟩ (k_X10_move l dC dI cs aX en H.size X (xs (nI i + nI 1).toNatClampNeg) r X' eX) (cwV 1 hts gL_law_X10_move rfl rfl rfl cd_X10_move ⟨(Nat.le_of_ble_eq_true rfl), (Nat.le_of_ble_eq_true rfl)⟩) hK hP hD hS hA ⟨rfl, rfl, rfl, rfl, rfl, rfl⟩ (jn_nd (is := [0]) hD rfl rfl) 0 8 rfl rfl rfl rfl rfl hl.1 (Nat.le_of_ble_eq_true rfl) dL_law_760 ⟨(Nat.le_of_ble_eq_true rfl), (Nat.le_of_ble_eq_true rfl)⟩ (fun H1 locs1 hP' hD' hS' => ?_)
  replace hP : va_P (dC, dI) vwCl (fl [(w_X10 aX (0) cs en X'), (w_X11 aM (0) cs σ)]) H1 := hP'
  replace hD : va_D (fun q : Nat => s.heap.size ≤ q) (fl [(w_X10 aX (0) cs en X'), (w_X11 aM (0) cs σ)]) := hD'
  replace hS := hS'
  clear hP' hD' hS'
  refine lv_aload_n hx hb dL_law_763 rfl (lv_at hl 2 rfl) ?_
  refine lv_aload_n hx hb dL_law_764 rfl (lv_at hl 0 rfl) ?_
  refine lv_iload_n hx hb dL_law_765 rfl (lv_at hl 3 rfl) ?_
  refine lv_iconst (v := nI 1) hx hb dL_law_766 ic_1 ?_
  refine lv_iadd hx hb dL_law_767 ?_
  refine va_sld hx hb hX hbl hbA hS h_1 dL_law_768 ?_
  refine cl_L (As := [.int (xs (nI i + nI 1).toNatClampNeg)]) (rest := [.int r]) (L := [(w_X10 aX (0) cs en X'), (w_X11 aM (0) cs σ)]) (L' := [(w_X10 aX (0) cs en X'), (w_X11 aM (0) cs σ)]) (Wc := [(w_X11 aM (0) cs σ)]) (Wc' := [(w_X11 aM (0) cs σ)]) (is := [1]) (js := [0]) ⟨hx, hb, hml, hown, hts⟩ (k_X11_move l dC dI cs aM (0) H1.size σ (xs (nI i + nI 1).toNatClampNeg) r eM) (cwV 1 hts gL_law_X11_move rfl rfl rfl cd_X11_move ⟨(Nat.le_of_ble_eq_true rfl), (Nat.le_of_ble_eq_true rfl)⟩) hK hP hD hS hA ⟨rfl, rfl, rfl, rfl, rfl, rfl⟩ (jn_nd (is := [1]) hD rfl rfl) 206 9 rfl rfl rfl rfl rfl hl.1 (Nat.le_of_ble_eq_true rfl) dL_law_769 ⟨(Nat.le_of_ble_eq_true rfl), (Nat.le_of_ble_eq_true rfl)⟩ (fun H2 locs2 hP' hD' hS' => ?_)
  replace hP : va_P (dC, dI) vwCl (fl [(w_X10 aX (0) cs en X'), (w_X11 aM (0) cs σ)]) H2 := hP'
  replace hD : va_D (fun q : Nat => s.heap.size ≤ q) (fl [(w_X10 aX (0) cs en X'), (w_X11 aM (0) cs σ)]) := hD'
  replace hS := hS'
  clear hP' hD' hS'
  refine lv_icmp_eq (tgt := 901) hx hb dL_law_772 (by decide) (fun _ => ?_) (fun c9 => absurd rfl c9)
  exact kk X' σ _ _ hRel' hP hD hS
set_option maxHeartbeats 4000000 in
set_option maxRecDepth 100000 in
theorem law_evening {p : Program} {l : Launch} {e : Env} {s : State} {m : MethodId} {below : List Frame} {meth : Method} {c : Code} {b L : Nat} {xs : Nat → Int32} {dC : Nat → ClassId} {dI : Nat → Nat → Nat} {cs : Nat → ClassId} {aX aM en : Nat → Nat} (C0 : lw_At p s m meth c b L xs) (hL : L ≤ 1536) (hK : va_K (dC, dI) vwCl (tyL cs) s) {i : Nat} (hi : i + 3 ≤ L) {X : T5} {σ : T2} (hRel : Rel X σ) {H : Heap} {locs : List Loc} {ls : Array Slot} (hP : va_P (dC, dI) vwCl (fl [(w_X10 aX (0) cs en X), (w_X11 aM (0) cs σ)]) H) (hD : va_D (fun q : Nat => s.heap.size ≤ q) (fl [(w_X10 aX (0) cs en X), (w_X11 aM (0) cs σ)])) (hS : va_S (fun q : Nat => s.heap.size ≤ q) s.heap H locs) (hl : lv_has ls 4 [(0, .ref b), (1, .ref (aX 0)), (2, .ref (aM 0)), (3, .int (nI i))]) (kk : ∀ (X' : T5) (σ' : T2) (H1 : Heap) (locs1 : List Loc), Rel X' σ' → va_P (dC, dI) vwCl (fl [(w_X10 aX (0) cs en X'), (w_X11 aM (0) cs σ')]) H1 → va_D (fun q : Nat => s.heap.size ≤ q) (fl [(w_X10 aX (0) cs en X'), (w_X11 aM (0) cs σ')]) → va_S (fun q : Nat => s.heap.size ≤ q) s.heap H1 locs1 → W p l e room_1 s m #[Value.ref b] below meth c H1 locs1 213 3262 (lw_Z below #[Value.ref b] s) (F0 m 901 ls [])) : W p l e room_1 s m #[Value.ref b] below meth c H locs 213 3262 (lw_Z below #[Value.ref b] s) (F0 m 777 ls []) := by
  obtain ⟨hx, hb, hr, hml, hown, hts0, hX, hbl, hlocks, hgv⟩ := id C0
  have hown : s.vm.findClass RL = some m.cls := hown
  have hts : ∀ w ∈ wsL_law, w.before #[Value.ref b] s = true := fun w hw => hts0 w (wsL_law_in w hw)
  have hA : ∀ q : Nat, s.heap.size ≤ q → (fun q : Nat => s.heap.size ≤ q) q := fun _ h => h
  have hbA : ¬ (fun q : Nat => s.heap.size ≤ q) b := Nat.not_le.mpr hbl
  obtain ⟨r, X', eX, eM, hRel'⟩ := r_evening hRel
  refine lv_aload_n hx hb dL_law_777 rfl (lv_at hl 1 rfl) ?_
  refine cl_L (As := []) (rest := []) (L := [(w_X10 aX (0) cs en X), (w_X11 aM (0) cs σ)]) (L' := [(w_X10 aX (0) cs en X'), (w_X11 aM (0) cs σ)]) (Wc := [(w_X10 aX (0) cs en X)]) (Wc' := [(w_X10 aX (0) cs en X')]) (is := [0]) (js := [1]) ⟨hx, hb, hml, hown, hts⟩ (k_X10_evening l dC dI cs aX en H.size X r X' eX) (cwV 0 hts gL_law_X10_evening rfl rfl rfl cd_X10_evening ⟨(Nat.le_of_ble_eq_true rfl), (Nat.le_of_ble_eq_true rfl)⟩) hK hP hD hS hA ⟨rfl, rfl, rfl, rfl, rfl, rfl⟩ (jn_nd (is := [0]) hD rfl rfl) 0 8 rfl rfl rfl rfl rfl hl.1 (Nat.le_of_ble_eq_true rfl) dL_law_778 ⟨(Nat.le_of_ble_eq_true rfl), (Nat.le_of_ble_eq_true rfl)⟩ (fun H1 locs1 hP' hD' hS' => ?_)
  replace hP : va_P (dC, dI) vwCl (fl [(w_X10 aX (0) cs en X'), (w_X11 aM (0) cs σ)]) H1 := hP'
  replace hD : va_D (fun q : Nat => s.heap.size ≤ q) (fl [(w_X10 aX (0) cs en X'), (w_X11 aM (0) cs σ)]) := hD'
  replace hS := hS'
  clear hP' hD' hS'
  refine lv_aload_n hx hb dL_law_781 rfl (lv_at hl 2 rfl) ?_
  refine cl_L (As := []) (rest := [.int r]) (L := [(w_X10 aX (0) cs en X'), (w_X11 aM (0) cs σ)]) (L' := [(w_X10 aX (0) cs en X'), (w_X11 aM (0) cs σ)]) (Wc := [(w_X11 aM (0) cs σ)]) (Wc' := [(w_X11 aM (0) cs σ)]) (is := [1]) (js := [0]) ⟨hx, hb, hml, hown, hts⟩ (k_X11_evening l dC dI cs aM (0) H1.size σ r eM) (cwV 0 hts gL_law_X11_evening rfl rfl rfl cd_X11_evening ⟨(Nat.le_of_ble_eq_true rfl), (Nat.le_of_ble_eq_true rfl)⟩) hK hP hD hS hA ⟨rfl, rfl, rfl, rfl, rfl, rfl⟩ (jn_nd (is := [1]) hD rfl rfl) 206 9 rfl rfl rfl rfl rfl hl.1 (Nat.le_of_ble_eq_true rfl) dL_law_782 ⟨(Nat.le_of_ble_eq_true rfl), (Nat.le_of_ble_eq_true rfl)⟩ (fun H2 locs2 hP' hD' hS' => ?_)
  replace hP : va_P (dC, dI) vwCl (fl [(w_X10 aX (0) cs en X'), (w_X11 aM (0) cs σ)]) H2 := hP'
  replace hD : va_D (fun q : Nat => s.heap.size ≤ q) (fl [(w_X10 aX (0) cs en X'), (w_X11 aM (0) cs σ)]) := hD'
  replace hS := hS'
  clear hP' hD' hS'
  refine lv_icmp_eq (tgt := 901) hx hb dL_law_785 (by decide) (fun _ => ?_) (fun c9 => absurd rfl c9)
  exact kk X' σ _ _ hRel' hP hD hS
set_option maxHeartbeats 4000000 in
set_option maxRecDepth 100000 in
theorem law_keep {p : Program} {l : Launch} {e : Env} {s : State} {m : MethodId} {below : List Frame} {meth : Method} {c : Code} {b L : Nat} {xs : Nat → Int32} {dC : Nat → ClassId} {dI : Nat → Nat → Nat} {cs : Nat → ClassId} {aX aM en : Nat → Nat} (C0 : lw_At p s m meth c b L xs) (hL : L ≤ 1536) (hK : va_K (dC, dI) vwCl (tyL cs) s) {i : Nat} (hi : i + 3 ≤ L) {X : T5} {σ : T2} (hRel : Rel X σ) {H : Heap} {locs : List Loc} {ls : Array Slot} (hP : va_P (dC, dI) vwCl (fl [(w_X10 aX (0) cs en X), (w_X11 aM (0) cs σ)]) H) (hD : va_D (fun q : Nat => s.heap.size ≤ q) (fl [(w_X10 aX (0) cs en X), (w_X11 aM (0) cs σ)])) (hS : va_S (fun q : Nat => s.heap.size ≤ q) s.heap H locs) (hl : lv_has ls 4 [(0, .ref b), (1, .ref (aX 0)), (2, .ref (aM 0)), (3, .int (nI i))]) (kk : ∀ (X' : T5) (σ' : T2) (H1 : Heap) (locs1 : List Loc), Rel X' σ' → va_P (dC, dI) vwCl (fl [(w_X10 aX (0) cs en X'), (w_X11 aM (0) cs σ')]) H1 → va_D (fun q : Nat => s.heap.size ≤ q) (fl [(w_X10 aX (0) cs en X'), (w_X11 aM (0) cs σ')]) → va_S (fun q : Nat => s.heap.size ≤ q) s.heap H1 locs1 → W p l e room_1 s m #[Value.ref b] below meth c H1 locs1 213 3262 (lw_Z below #[Value.ref b] s) (F0 m 901 ls [])) : W p l e room_1 s m #[Value.ref b] below meth c H locs 213 3262 (lw_Z below #[Value.ref b] s) (F0 m 790 ls []) := by
  obtain ⟨hx, hb, hr, hml, hown, hts0, hX, hbl, hlocks, hgv⟩ := id C0
  have hown : s.vm.findClass RL = some m.cls := hown
  have hts : ∀ w ∈ wsL_law, w.before #[Value.ref b] s = true := fun w hw => hts0 w (wsL_law_in w hw)
  have hA : ∀ q : Nat, s.heap.size ≤ q → (fun q : Nat => s.heap.size ≤ q) q := fun _ h => h
  have hbA : ¬ (fun q : Nat => s.heap.size ≤ q) b := Nat.not_le.mpr hbl
  obtain ⟨r, X', σ', eX, eM, hRel'⟩ := L_keep hRel
  refine lv_aload_n hx hb dL_law_790 rfl (lv_at hl 1 rfl) ?_
  refine cl_L (As := []) (rest := []) (L := [(w_X10 aX (0) cs en X), (w_X11 aM (0) cs σ)]) (L' := [(w_X10 aX (0) cs en X'), (w_X11 aM (0) cs σ)]) (Wc := [(w_X10 aX (0) cs en X)]) (Wc' := [(w_X10 aX (0) cs en X')]) (is := [0]) (js := [1]) ⟨hx, hb, hml, hown, hts⟩ (k_X10_keep l dC dI cs aX en H.size X r X' eX) (cwV 0 hts gL_law_X10_keep rfl rfl rfl cd_X10_keep ⟨(Nat.le_of_ble_eq_true rfl), (Nat.le_of_ble_eq_true rfl)⟩) hK hP hD hS hA ⟨rfl, rfl, rfl, rfl, rfl, rfl⟩ (jn_nd (is := [0]) hD rfl rfl) 0 8 rfl rfl rfl rfl rfl hl.1 (Nat.le_of_ble_eq_true rfl) dL_law_791 ⟨(Nat.le_of_ble_eq_true rfl), (Nat.le_of_ble_eq_true rfl)⟩ (fun H1 locs1 hP' hD' hS' => ?_)
  replace hP : va_P (dC, dI) vwCl (fl [(w_X10 aX (0) cs en X'), (w_X11 aM (0) cs σ)]) H1 := hP'
  replace hD : va_D (fun q : Nat => s.heap.size ≤ q) (fl [(w_X10 aX (0) cs en X'), (w_X11 aM (0) cs σ)]) := hD'
  replace hS := hS'
  clear hP' hD' hS'
  refine lv_aload_n hx hb dL_law_794 rfl (lv_at hl 2 rfl) ?_
  refine cl_L (As := []) (rest := [.int r]) (L := [(w_X10 aX (0) cs en X'), (w_X11 aM (0) cs σ)]) (L' := [(w_X10 aX (0) cs en X'), (w_X11 aM (0) cs σ')]) (Wc := [(w_X11 aM (0) cs σ)]) (Wc' := [(w_X11 aM (0) cs σ')]) (is := [1]) (js := [0]) ⟨hx, hb, hml, hown, hts⟩ (k_X11_keep l dC dI cs aM (0) H1.size σ r σ' eM) (cwV 0 hts gL_law_X11_keep rfl rfl rfl cd_X11_keep ⟨(Nat.le_of_ble_eq_true rfl), (Nat.le_of_ble_eq_true rfl)⟩) hK hP hD hS hA ⟨rfl, rfl, rfl, rfl, rfl, rfl⟩ (jn_nd (is := [1]) hD rfl rfl) 206 9 rfl rfl rfl rfl rfl hl.1 (Nat.le_of_ble_eq_true rfl) dL_law_795 ⟨(Nat.le_of_ble_eq_true rfl), (Nat.le_of_ble_eq_true rfl)⟩ (fun H2 locs2 hP' hD' hS' => ?_)
  replace hP : va_P (dC, dI) vwCl (fl [(w_X10 aX (0) cs en X'), (w_X11 aM (0) cs σ')]) H2 := hP'
  replace hD : va_D (fun q : Nat => s.heap.size ≤ q) (fl [(w_X10 aX (0) cs en X'), (w_X11 aM (0) cs σ')]) := hD'
  replace hS := hS'
  clear hP' hD' hS'
  refine lv_icmp_eq (tgt := 901) hx hb dL_law_798 (by decide) (fun _ => ?_) (fun c9 => absurd rfl c9)
  exact kk X' σ' _ _ hRel' hP hD hS
set_option maxHeartbeats 4000000 in
set_option maxRecDepth 100000 in
theorem law_restore {p : Program} {l : Launch} {e : Env} {s : State} {m : MethodId} {below : List Frame} {meth : Method} {c : Code} {b L : Nat} {xs : Nat → Int32} {dC : Nat → ClassId} {dI : Nat → Nat → Nat} {cs : Nat → ClassId} {aX aM en : Nat → Nat} (C0 : lw_At p s m meth c b L xs) (hL : L ≤ 1536) (hK : va_K (dC, dI) vwCl (tyL cs) s) {i : Nat} (hi : i + 3 ≤ L) {X : T5} {σ : T2} (hRel : Rel X σ) {H : Heap} {locs : List Loc} {ls : Array Slot} (hP : va_P (dC, dI) vwCl (fl [(w_X10 aX (0) cs en X), (w_X11 aM (0) cs σ)]) H) (hD : va_D (fun q : Nat => s.heap.size ≤ q) (fl [(w_X10 aX (0) cs en X), (w_X11 aM (0) cs σ)])) (hS : va_S (fun q : Nat => s.heap.size ≤ q) s.heap H locs) (hl : lv_has ls 4 [(0, .ref b), (1, .ref (aX 0)), (2, .ref (aM 0)), (3, .int (nI i))]) (kk : ∀ (X' : T5) (σ' : T2) (H1 : Heap) (locs1 : List Loc), Rel X' σ' → va_P (dC, dI) vwCl (fl [(w_X10 aX (0) cs en X'), (w_X11 aM (0) cs σ')]) H1 → va_D (fun q : Nat => s.heap.size ≤ q) (fl [(w_X10 aX (0) cs en X'), (w_X11 aM (0) cs σ')]) → va_S (fun q : Nat => s.heap.size ≤ q) s.heap H1 locs1 → W p l e room_1 s m #[Value.ref b] below meth c H1 locs1 213 3262 (lw_Z below #[Value.ref b] s) (F0 m 901 ls [])) : W p l e room_1 s m #[Value.ref b] below meth c H locs 213 3262 (lw_Z below #[Value.ref b] s) (F0 m 803 ls []) := by
  obtain ⟨hx, hb, hr, hml, hown, hts0, hX, hbl, hlocks, hgv⟩ := id C0
  have hown : s.vm.findClass RL = some m.cls := hown
  have hts : ∀ w ∈ wsL_law, w.before #[Value.ref b] s = true := fun w hw => hts0 w (wsL_law_in w hw)
  have hA : ∀ q : Nat, s.heap.size ≤ q → (fun q : Nat => s.heap.size ≤ q) q := fun _ h => h
  have hbA : ¬ (fun q : Nat => s.heap.size ≤ q) b := Nat.not_le.mpr hbl
  obtain ⟨r, X', σ', eX, eM, hRel'⟩ := L_restore hRel
  refine lv_aload_n hx hb dL_law_803 rfl (lv_at hl 1 rfl) ?_
  refine cl_L (As := []) (rest := []) (L := [(w_X10 aX (0) cs en X), (w_X11 aM (0) cs σ)]) (L' := [(w_X10 aX (0) cs en X'), (w_X11 aM (0) cs σ)]) (Wc := [(w_X10 aX (0) cs en X)]) (Wc' := [(w_X10 aX (0) cs en X')]) (is := [0]) (js := [1]) ⟨hx, hb, hml, hown, hts⟩ (k_X10_restore l dC dI cs aX en H.size X r X' eX) (cwV 0 hts gL_law_X10_restore rfl rfl rfl cd_X10_restore ⟨(Nat.le_of_ble_eq_true rfl), (Nat.le_of_ble_eq_true rfl)⟩) hK hP hD hS hA ⟨rfl, rfl, rfl, rfl, rfl, rfl⟩ (jn_nd (is := [0]) hD rfl rfl) 0 8 rfl rfl rfl rfl rfl hl.1 (Nat.le_of_ble_eq_true rfl) dL_law_804 ⟨(Nat.le_of_ble_eq_true rfl), (Nat.le_of_ble_eq_true rfl)⟩ (fun H1 locs1 hP' hD' hS' => ?_)
  replace hP : va_P (dC, dI) vwCl (fl [(w_X10 aX (0) cs en X'), (w_X11 aM (0) cs σ)]) H1 := hP'
  replace hD : va_D (fun q : Nat => s.heap.size ≤ q) (fl [(w_X10 aX (0) cs en X'), (w_X11 aM (0) cs σ)]) := hD'
  replace hS := hS'
  clear hP' hD' hS'
  refine lv_aload_n hx hb dL_law_807 rfl (lv_at hl 2 rfl) ?_
  refine cl_L (As := []) (rest := [.int r]) (L := [(w_X10 aX (0) cs en X'), (w_X11 aM (0) cs σ)]) (L' := [(w_X10 aX (0) cs en X'), (w_X11 aM (0) cs σ')]) (Wc := [(w_X11 aM (0) cs σ)]) (Wc' := [(w_X11 aM (0) cs σ')]) (is := [1]) (js := [0]) ⟨hx, hb, hml, hown, hts⟩ (k_X11_restore l dC dI cs aM (0) H1.size σ r σ' eM) (cwV 0 hts gL_law_X11_restore rfl rfl rfl cd_X11_restore ⟨(Nat.le_of_ble_eq_true rfl), (Nat.le_of_ble_eq_true rfl)⟩) hK hP hD hS hA ⟨rfl, rfl, rfl, rfl, rfl, rfl⟩ (jn_nd (is := [1]) hD rfl rfl) 206 9 rfl rfl rfl rfl rfl hl.1 (Nat.le_of_ble_eq_true rfl) dL_law_808 ⟨(Nat.le_of_ble_eq_true rfl), (Nat.le_of_ble_eq_true rfl)⟩ (fun H2 locs2 hP' hD' hS' => ?_)
  replace hP : va_P (dC, dI) vwCl (fl [(w_X10 aX (0) cs en X'), (w_X11 aM (0) cs σ')]) H2 := hP'
  replace hD : va_D (fun q : Nat => s.heap.size ≤ q) (fl [(w_X10 aX (0) cs en X'), (w_X11 aM (0) cs σ')]) := hD'
  replace hS := hS'
  clear hP' hD' hS'
  refine lv_icmp_eq (tgt := 901) hx hb dL_law_811 (by decide) (fun _ => ?_) (fun c9 => absurd rfl c9)
  exact kk X' σ' _ _ hRel' hP hD hS
