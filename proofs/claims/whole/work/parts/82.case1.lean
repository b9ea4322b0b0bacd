set_option maxHeartbeats 4000000 in
set_option maxRecDepth 100000 in
theorem law_report {p : Program} {l : Launch} {e : Env} {s : State} {m : MethodId} {below : List Frame} {meth : Method} {c : Code} {b L : Nat} {xs : Nat → Int32} {dC : Nat → ClassId} {dI : Nat → Nat → Nat} {cs : Nat → ClassId} {aX aM en : Nat → Nat} (C0 : lw_At p s m meth c b L xs) (hL : L ≤ 1536) (hK : va_K (dC, dI) vwCl (tyL cs) s) {i : Nat} (hi : i + 3 ≤ L) {X : T5} {σ : T2} (hRel : Rel X σ) {H : Heap} {locs : List Loc} {ls : Array Slot} (hP : va_P (dC, dI) vwCl (fl [(w_X10 aX (0) cs en X), (w_X11 aM (0) cs σ)]) H) (hD : va_D (fun q : Nat => s.heap.size ≤ q) (fl [(w_X10 aX (0) cs en X), (w_X11 aM (0) cs σ)])) (hS : va_S (fun q : Nat => s.heap.size ≤ q) s.heap H locs) (hl : lv_has ls 4 [(0, .ref b), (1, .ref (aX 0)), (2, .ref (aM 0)), (3, .int (nI i))]) (kk : ∀ (X' : T5) (σ' : T2) (H1 : Heap) (locs1 : List Loc), Rel X' σ' → va_P (dC, dI) vwCl (fl [(w_X10 aX (0) cs en X'), (w_X11 aM (0) cs σ')]) H1 → va_D (fun q : Nat => s.heap.size ≤ q) (fl [(w_X10 aX (0) cs en X'), (w_X11 aM (0) cs σ')]) → va_S (fun q : Nat => s.heap.size ≤ q) s.heap H1 locs1 → W p l e room_1 s m #[Value.ref b] below meth c H1 locs1 213 3262 (lw_Z below #[Value.ref b] s) (F0 m 901 ls [])) : W p l e room_1 s m #[Value.ref b] below meth c H locs 213 3262 (lw_Z below #[Value.ref b] s) (F0 m 388 ls []) := by
  obtain ⟨hx, hb, hr, hml, hown, hts0, hX, hbl, hlocks, hgv⟩ := id C0
  have hown : s.vm.findClass RL = some m.cls := hown
  have hts : ∀ w ∈ wsL_law, w.before #[Value.ref b] s = true := fun w hw => hts0 w (wsL_law_in w hw)
  have hA : ∀ q : Nat, s.heap.size ≤ q → (fun q : Nat => s.heap.size ≤ q) q := fun _ h => h
  have hbA : ¬ (fun q : Nat => s.heap.size ≤ q) b := Nat.not_le.mpr hbl
  have h_1 : vp_in (nI i + nI 1) L := law_in (by omega) hL
  obtain ⟨r, X', σ', eX, eM, hRel'⟩ := L_report hRel (xs (nI i + nI 1).toNatClampNeg)
  refine lv_aload_n hx hb dL_law_388 rfl (lv_at hl 1 rfl) ?_
  refine lv_aload_n hx hb dL_law_389 rfl (lv_at hl 0 rfl) ?_
  refine lv_iload_n hx hb dL_law_390 rfl (lv_at hl 3 rfl) ?_
  refine lv_iconst (v := nI 1) hx hb dL_law_391 ic_1 ?_
  refine lv_iadd hx hb dL_law_392 ?_
  refine va_sld hx hb hX hbl hbA hS h_1 dL_law_393 ?_
  refine cl_L (As := [.int (xs (nI i + nI 1).toNatClampNeg)]) (rest := []) (L := [(w_X10 aX (0) cs en X), (w_X11 aM (0) cs σ)]) (L' := [(w_X10 aX (0) cs en X'), (w_X11 aM (0) cs σ)]) (Wc := [(w_X10 aX (0) cs en X)]) (Wc' := [(w_X10 aX (0) cs en X')]) (is := [0]) (js := [1]) ⟨hx, hb, hml, hown, hts⟩ (k_X10_report l dC dI cs aX en H.size X (xs (nI i + nI 1).toNatClampNeg) r X' eX) (cwV 1 hts gL_law_X10_report rfl rfl rfl cd_X10_report ⟨(Nat.le_of_ble_eq_true rfl), (Nat.le_of_ble_eq_true rfl)⟩) hK hP hD hS hA ⟨rfl, rfl, rfl, rfl, rfl, rfl⟩ (jn_nd (is := [0]) hD rfl rfl) 0 8 rfl rfl rfl rfl rfl hl.1 (Nat.le_of_ble_eq_true rfl) dL_law_394 ⟨(Nat.le_of_ble_eq_true rfl), (Nat.le_of_ble_eq_true rfl)⟩ (fun H1 locs1 hP' hD' hS' => ?_)
  replace hP : va_P (dC, dI) vwCl (fl [(w_X10 aX (0) cs en X'), (w_X11 aM (0) cs σ)]) H1 := hP'
  replace hD : va_D (fun q : Nat => s.heap.size ≤ q) (fl [(w_X10 aX (0) cs en X'), (w_X11 aM (0) cs σ)]) := hD'
  replace hS := hS'
  clear hP' hD' hS'
  refine lv_aload_n hx hb dL_law_397 rfl (lv_at hl 2 rfl) ?_
  refine lv_aload_n hx hb dL_law_398 rfl (lv_at hl 0 rfl) ?_
  refine lv_iload_n hx hb dL_law_399 rfl (lv_at hl 3 rfl) ?_
  refine lv_iconst (v := nI 1) hx hb dL_law_400 ic_1 ?_
  refine lv_iadd hx hb dL_law_401 ?_
  refine va_sld hx hb hX hbl hbA hS h_1 dL_law_402 ?_
  refine cl_L (As := [.int (xs (nI i + nI 1).toNatClampNeg)]) (rest := [.int r]) (L := [(w_X10 aX (0) cs en X'), (w_X11 aM (0) cs σ)]) (L' := [(w_X10 aX (0) cs en X'), (w_X11 aM (0) cs σ')]) (Wc := [(w_X11 aM (0) cs σ)]) (Wc' := [(w_X11 aM (0) cs σ')]) (is := [1]) (js := [0]) ⟨hx, hb, hml, hown, hts⟩ (k_X11_report l dC dI cs aM (0) H1.size σ (xs (nI i + nI 1).toNatClampNeg) r σ' eM) (cwV 1 hts gL_law_X11_report rfl rfl rfl cd_X11_report ⟨(Nat.le_of_ble_eq_true rfl), (Nat.le_of_ble_eq_true rfl)⟩) hK hP hD hS hA ⟨rfl, rfl, rfl, rfl, rfl, rfl⟩ (jn_nd (is := [1]) hD rfl rfl) 206 9 rfl rfl rfl rfl rfl hl.1 (Nat.le_of_ble_eq_true rfl) dL_law_403 ⟨(Nat.le_of_ble_eq_true rfl), (Nat.le_of_ble_eq_true rfl)⟩ (fun H2 locs2 hP' hD' hS' => ?_)
  replace hP : va_P (dC, dI) vwCl (fl [(w_X10 aX (0) cs en X'), (w_X11 aM (0) cs σ')]) H2 := hP'
  replace hD : va_D (fun q : Nat => s.heap.size ≤ q) (fl [(w_X10 aX (0) cs en X'), (w_X11 aM (0) cs σ')]) := hD'
  replace hS := hS'
  clear hP' hD' hS'
  refine lv_icmp_eq (tgt := 901) hx hb dL_law_406 (by decide) (fun _ => ?_) (fun c9 => absurd rfl c9)
  exact kk X' σ' _ _ hRel' hP hD hS
set_option maxHeartbeats 4000000 in
set_option maxRecDepth 100000 in
theorem law_take {p : Program} {l : Launch} {e : Env} {s : State} {m : MethodId} {below : List Frame} {meth : Method} {c : Code} {b L : Nat} {xs : Nat → Int32} {dC : Nat → ClassId} {dI : Nat → Nat → Nat} {cs : Nat → ClassId} {aX aM en : Nat → Nat} (C0 : lw_At p s m meth c b L xs) (hL : L ≤ 1536) (hK : va_K (dC, dI) vwCl (tyL cs) s) {i : Nat} (hi : i + 3 ≤ L) {X : T5} {σ : T2} (hRel : Rel X σ) {H : Heap} {locs : List Loc} {ls : Array Slot} (hP : va_P (dC, dI) vwCl (fl [(w_X10 aX (0) cs en X), (w_X11 aM (0) cs σ)]) H) (hD : va_D (fun q : Nat => s.heap.size ≤ q) (fl [(w_X10 aX (0) cs en X), (w_X11 aM (0) cs σ)])) (hS : va_S (fun q : Nat => s.heap.size ≤ q) s.heap H locs) (hl : lv_has ls 4 [(0, .ref b), (1, .ref (aX 0)), (2, .ref (aM 0)), (3, .int (nI i))]) (kk : ∀ (X' : T5) (σ' : T2) (H1 : Heap) (locs1 : List Loc), Rel X' σ' → va_P (dC, dI) vwCl (fl [(w_X10 aX (0) cs en X'), (w_X11 aM (0) cs σ')]) H1 → va_D (fun q : Nat => s.heap.size ≤ q) (fl [(w_X10 aX (0) cs en X'), (w_X11 aM (0) cs σ')]) → va_S (fun q : Nat => s.heap.size ≤ q) s.heap H1 locs1 → W p l e room_1 s m #[Value.ref b] below meth c H1 locs1 213 3262 (lw_Z below #[Value.ref b] s) (F0 m 901 ls [])) : W p l e room_1 s m #[Value.ref b] below meth c H locs 213 3262 (lw_Z below #[Value.ref b] s) (F0 m 411 ls []) := by
  obtain ⟨hx, hb, hr, hml, hown, hts0, hX, hbl, hlocks, hgv⟩ := id C0
  have hown : s.vm.findClass RL = some m.cls := hown
  have hts : ∀ w ∈ wsL_law, w.before #[Value.ref b] s = true := fun w hw => hts0 w (wsL_law_in w hw)
  have hA : ∀ q : Nat, s.heap.size ≤ q → (fun q : Nat => s.heap.size ≤ q) q := fun _ h => h
  have hbA : ¬ (fun q : Nat => s.heap.size ≤ q) b := Nat.not_le.mpr hbl
  have h_1 : vp_in (nI i + nI 1) L := law_in (by omega) hL
  have h_2 : vp_in (nI i + nI 2) L := law_in (by omega) hL
  obtain ⟨r, X', σ', eX, eM, hRel'⟩ := L_take hRel (xs (nI i + nI 1).toNatClampNeg) (xs (nI i + nI 2).toNatClampNeg)
  refine lv_aload_n hx hb dL_law_411 rfl (lv_at hl 1 rfl) ?_
  refine lv_aload_n hx hb dL_law_412 rfl (lv_at hl 0 rfl) ?_
  refine lv_iload_n hx hb dL_law_413 rfl (lv_at hl 3 rfl) ?_
  refine lv_iconst (v := nI 1) hx hb dL_law_414 ic_1 ?_
  refine lv_iadd hx hb dL_law_415 ?_
  refine va_sld hx hb hX hbl hbA hS h_1 dL_law_416 ?_
  refine lv_aload_n hx hb dL_law_417 rfl (lv_at hl 0 rfl) ?_
  refine lv_iload_n hx hb dL_law_418 rfl (lv_at hl 3 rfl) ?_
  refine lv_iconst (v := nI 2) hx hb dL_law_419 ic_2 ?_
  refine lv_iadd hx hb dL_law_420 ?_
  refine va_sld hx hb hX hbl hbA hS h_2 dL_law_421 ?_
  refine cl_L (As := [.int (xs (nI i + nI 1).toNatClampNeg), .int (xs (nI i + nI 2).toNatClampNeg)]) (rest := []) (L := [(w_X10 aX (0) cs en X), (w_X11 aM (0) cs σ)]) (L' := [(w_X10 aX (0) cs en X'), (w_X11 aM (0) cs σ)]) (Wc := [(w_X10 aX (0) cs en X)]) (Wc' := [(w_X10 aX (0) cs en X')]) (is := [0]) (js := [1]) ⟨hx, hb, hml, hown, hts⟩ (k_X10_take l dC dI cs aX en H.size X (xs (nI i + nI 1).toNatClampNeg) (xs (nI i + nI 2).toNatClampNeg) r X' eX) (cwV 2 hts gL_law_X10_take rfl rfl rfl cd_X10_take ⟨(Nat.le_of_ble_eq_true rfl), (Nat.le_of_ble_eq_true rfl)⟩) hK hP hD hS hA ⟨rfl, rfl, rfl, rfl, rfl, rfl⟩ (jn_nd (is := [0]) hD rfl rfl) 0 8 rfl rfl rfl rfl rfl hl.1 (Nat.le_of_ble_eq_true rfl) dL_law_422 ⟨(Nat.le_of_ble_eq_true rfl), (Nat.le_of_ble_eq_true rfl)⟩ (fun H1 locs1 hP' hD' hS' => ?_)
  replace hP : va_P (dC, dI) vwCl (fl [(w_X10 aX (0) cs en X'), (w_X11 aM (0) cs σ)]) H1 := hP'
  replace hD : va_D (fun q : Nat => s.heap.size ≤ q) (fl [(w_X10 aX (0) cs en X'), (w_X11 aM (0) cs σ)]) := hD'
  replace hS := hS'
  clear hP' hD' hS'
  refine lv_aload_n hx hb dL_law_425 rfl (lv_at hl 2 rfl) ?_
  refine lv_aload_n hx hb dL_law_426 rfl (lv_at hl 0 rfl) ?_
  refine lv_iload_n hx hb dL_law_427 rfl (lv_at hl 3 rfl) ?_
  refine lv_iconst (v := nI 1) hx hb dL_law_428 ic_1 ?_
  refine lv_iadd hx hb dL_law_429 ?_
  refine va_sld hx hb hX hbl hbA hS h_1 dL_law_430 ?_
  refine lv_aload_n hx hb dL_law_431 rfl (lv_at hl 0 rfl) ?_
  refine lv_iload_n hx hb dL_law_432 rfl (lv_at hl 3 rfl) ?_
  refine lv_iconst (v := nI 2) hx hb dL_law_433 ic_2 ?_
  refine lv_iadd hx hb dL_law_434 ?_
  refine va_sld hx hb hX hbl hbA hS h_2 dL_law_435 ?_
  refine cl_L (As := [.int (xs (nI i + nI 1).toNatClampNeg), .int (xs (nI i + nI 2).toNatClampNeg)]) (rest := [.int r]) (L := [(w_X10 aX (0) cs en X'), (w_X11 aM (0) cs σ)]) (L' := [(w_X10 aX (0) cs en X'), (w_X11 aM (0) cs σ')]) (Wc := [(w_X11 aM (0) cs σ)]) (Wc' := [(w_X11 aM (0) cs σ')]) (is := [1]) (js := [0]) ⟨hx, hb, hml, hown, hts⟩ (k_X11_take l dC dI cs aM (0) H1.size σ (xs (nI i + nI 1).toNatClampNeg) (xs (nI i + nI 2).toNatClampNeg) r σ' eM) (cwV 2 hts gL_law_X11_take rfl rfl rfl cd_X11_take ⟨(Nat.le_of_ble_eq_true rfl), (Nat.le_of_ble_eq_true rfl)⟩) hK hP hD hS hA ⟨rfl, rfl, rfl, rfl, rfl, rfl⟩ (jn_nd (is := [1]) hD rfl rfl) 206 9 rfl rfl rfl rfl rfl hl.1 (Nat.le_of_ble_eq_true rfl) dL_law_436 ⟨(Nat.le_of_ble_eq_true rfl), (Nat.le_of_ble_eq_true rfl)⟩ (fun H2 locs2 hP' hD' hS' => ?_)
  replace hP : va_P (dC, dI) vwCl (fl [(w_X10 aX (0) cs en X'), (w_X11 aM (0) cs σ')]) H2 := hP'
  replace hD : va_D (fun q : Nat => s.heap.size ≤ q) (fl [(w_X10 aX (0) cs en X'), (w_X11 aM (0) cs σ')]) := hD'
  replace hS := hS'
  clear hP' hD' hS'
  refine lv_icmp_eq (tgt := 901) hx hb dL_law_439 (by decide) (fun _ => ?_) (fun c9 => absurd rfl c9)
  exact kk X' σ' _ _ hRel' hP hD hS
set_option maxHeartbeats 4000000 in
set_option maxRecDepth 100000 in
theorem law_put {p : Program} {l : Launch} {e : Env} {s : State} {m : MethodId} {below : List Frame} {meth : Method} {c : Code} {b L : Nat} {xs : Nat → Int32} {dC : Nat → ClassId} {dI : Nat → Nat → Nat} {cs : Nat → ClassId} {aX aM en : Nat → Nat} (C0 : lw_At p s m meth c b L xs) (hL : L ≤ 1536) (hK : va_K (dC, dI) vwCl (tyL cs) s) {i : Nat} (hi : i + 3 ≤ L) {X : T5} {σ : T2} (hRel : Rel X σ) {H : Heap} {locs : List Loc} {ls : Array Slot} (hP : va_P (dC, dI) vwCl (fl [(w_X10 aX (0) cs en X), (w_X11 aM (0) cs σ)]) H) (hD : va_D (fun q : Nat => s.heap.size ≤ q) (fl [(w_X10 aX (0) cs en X), (w_X11 aM (0) cs σ)])) (hS : va_S (fun q : Nat => s.heap.size ≤ q) s.heap H locs) (hl : lv_has ls 4 [(0, .ref b), (1, .ref (aX 0)), (2, .ref (aM 0)), (3, .int (nI i))]) (kk : ∀ (X' : T5) (σ' : T2) (H1 : Heap) (locs1 : List Loc), Rel X' σ' → va_P (dC, dI) vwCl (fl [(w_X10 aX (0) cs en X'), (w_X11 aM (0) cs σ')]) H1 → va_D (fun q : Nat => s.heap.size ≤ q) (fl [(w_X10 aX (0) cs en X'), (w_X11 aM (0) cs σ')]) → va_S (fun q : Nat => s.heap.size ≤ q) s.heap H1 locs1 → W p l e room_1 s m #[Value.ref b] below meth c H1 locs1 213 3262 (lw_Z below #[Value.ref b] s) (F0 m 901 ls [])) : W p l e room_1 s m #[Value.ref b] below meth c H locs 213 3262 (lw_Z below #[Value.ref b] s) (F0 m 444 ls []) := by
  obtain ⟨hx, hb, hr, hml, hown, hts0, hX, hbl, hlocks, hgv⟩ := id C0
  have hown : s.vm.findClass RL = some m.cls := hown
  have hts : ∀ w ∈ wsL_law, w.before #[Value.ref b] s = true := fun w hw => hts0 w (wsL_law_in w hw)
  have hA : ∀ q : Nat, s.heap.size ≤ q → (fun q : Nat => s.heap.size ≤ q) q := fun _ h => h
  have hbA : ¬ (fun q : Nat => s.heap.size ≤ q) b := Nat.not_le.mpr hbl
  have h_1 : vp_in (nI i + nI 1) L := law_in (by omega) hL
  have h_2 : vp_in (nI i + nI 2) L := law_in (by omega) hL
  obtain ⟨r, X', σ', eX, eM, hRel'⟩ := L_put hRel (xs (nI i + nI 1).toNatClampNeg) (xs (nI i + nI 2).toNatClampNeg)
  refine lv_aload_n hx hb dL_law_444 rfl (lv_at hl 1 rfl) ?_
  refine lv_aload_n hx hb dL_law_445 rfl (lv_at hl 0 rfl) ?_
  refine lv_iload_n hx hb dL_law_446 rfl (lv_at hl 3 rfl) ?_
  refine lv_iconst (v := nI 1) hx hb dL_law_447 ic_1 ?_
  refine lv_iadd hx hb dL_law_448 ?_
  refine va_sld hx hb hX hbl hbA hS h_1 dL_law_449 ?_
  refine lv_aload_n hx hb dL_law_450 rfl (lv_at hl 0 rfl) ?_
  refine lv_iload_n hx hb dL_law_451 rfl (lv_at hl 3 rfl) ?_
  refine lv_iconst (v := nI 2) hx hb dL_law_452 ic_2 ?_
  refine lv_iadd hx hb dL_law_453 ?_
  refine va_sld hx hb hX hbl hbA hS h_2 dL_law_454 ?_
  refine cl_L (As := [.int (xs (nI i + nI 1).toNatClampNeg), .int (xs (nI i + nI 2).toNatClampNeg)]) (rest := []) (L := [(w_X10 aX (0) cs en X), (w_X11 aM (0) cs σ)]) (L' := [(w_X10 aX (0) cs en X'), (w_X11 aM (0) cs σ)]) (Wc := [(w_X10 aX (0) cs en X)]) (Wc' := [(w_X10 aX (0) cs en X')]) (is := [0]) (js := [1]) ⟨hx, hb, hml, hown, hts⟩ (k_X10_put l dC dI cs aX en H.size X (xs (nI i + nI 1).toNatClampNeg) (xs (nI i + nI 2).toNatClampNeg) r X' eX) (cwV 2 hts gL_law_X10_put rfl rfl rfl cd_X10_put ⟨(Nat.le_of_ble_eq_true rfl), (Nat.le_of_ble_eq_true rfl)⟩) hK hP hD hS hA ⟨rfl, rfl, rfl, rfl, rfl, rfl⟩ (jn_nd (is := [0]) hD rfl rfl) 0 8 rfl rfl rfl rfl rfl hl.1 (Nat.le_of_ble_eq_true rfl) dL_law_455 ⟨(Nat.le_of_ble_eq_true rfl), (Nat.le_of_ble_eq_true rfl)⟩ (fun H1 locs1 hP' hD' hS' => ?_)
  replace hP : va_P (dC, dI) vwCl (fl [(w_X10 aX (0) cs en X'), (w_X11 aM (0) cs σ)]) H1 := hP'
  replace hD : va_D (fun q : Nat => s.heap.size ≤ q) (fl [(w_X10 aX (0) cs en X'), (w_X11 aM (0) cs σ)]) := hD'
  replace hS := hS'
  clear hP' hD' hS'
  refine lv_aload_n hx hb dL_law_458 rfl (lv_at hl 2 rfl) ?_
  refine lv_aload_n hx hb dL_law_459 rfl (lv_at hl 0 rfl) ?_
  refine lv_iload_n hx hb dL_law_460 rfl (lv_at hl 3 rfl) ?_
  refine lv_iconst (v := nI 1) hx hb dL_law_461 ic_1 ?_
  refine lv_iadd hx hb dL_law_462 ?_
  refine va_sld hx hb hX hbl hbA hS h_1 dL_law_463 ?_
  refine lv_aload_n hx hb dL_law_464 rfl (lv_at hl 0 rfl) ?_
  refine lv_iload_n hx hb dL_law_465 rfl (lv_at hl 3 rfl) ?_
  refine lv_iconst (v := nI 2) hx hb dL_law_466 ic_2 ?_
  refine lv_iadd hx hb dL_law_467 ?_
  refine va_sld hx hb hX hbl hbA hS h_2 dL_law_468 ?_
  refine cl_L (As := [.int (xs (nI i + nI 1).toNatClampNeg), .int (xs (nI i + nI 2).toNatClampNeg)]) (rest := [.int r]) (L := [(w_X10 aX (0) cs en X'), (w_X11 aM (0) cs σ)]) (L' := [(w_X10 aX (0) cs en X'), (w_X11 aM (0) cs σ')]) (Wc := [(w_X11 aM (0) cs σ)]) (Wc' := [(w_X11 aM (0) cs σ')]) (is := [1]) (js := [0]) ⟨hx, hb, hml, hown, hts⟩ (k_X11_put l dC dI cs aM (0) H1.size σ (xs (nI i + nI 1).toNatClampNeg) (xs (nI i + nI 2).toNatClampNeg) r σ' eM) (cwV 2 hts gL_law_X11_put rfl rfl rfl cd_X11_put ⟨(Nat.le_of_ble_eq_true rfl), (Nat.le_of_ble_eq_true rfl)⟩) hK hP hD hS hA ⟨rfl, rfl, rfl, rfl, rfl, rfl⟩ (jn_nd (is := [1]) hD rfl rfl) 206 9 rfl rfl rfl rfl rfl hl.1 (Nat.le_of_ble_eq_true rfl) dL_law_469 ⟨(Nat.le_of_ble_eq_true rfl), (Nat.le_of_ble_eq_true rfl)⟩ (fun H2 locs2 hP' hD' hS' => ?_)
  replace hP : va_P (dC, dI) vwCl (fl [(w_X10 aX (0) cs en X'), (w_X11 aM (0) cs σ')]) H2 := hP'
  replace hD : va_D (fun q : Nat => s.heap.size ≤ q) (fl [(w_X10 aX (0) cs en X'), (w_X11 aM (0) cs σ')]) := hD'
  replace hS := hS'
  clear hP' hD' hS'
  refine lv_icmp_eq (tgt := 901) hx hb dL_law_472 (by decide) (fun _ => ?_) (fun c9 => absurd rfl c9)
  exact kk X' σ' _ _ hRel' hP hD hS
set_option maxHeartbeats 4000000 in
set_option maxRecDepth 100000 in
theorem law_go {p : Program} {l : Launch} {e : Env} {s : State} {m : MethodId} {below : List Frame} {meth : Method} {c : Code} {b L : Nat} {xs : Nat → Int32} {dC : Nat → ClassId} {dI : Nat → Nat → Nat} {cs : Nat → ClassId} {aX aM en : Nat → Nat} (C0 : lw_At p s m meth c b L xs) (hL : L ≤ 1536) (hK : va_K (dC, dI) vwCl (tyL cs) s) {i : Nat} (hi : i + 3 ≤ L) {X : T5} {σ : T2} (hRel : Rel X σ) {H : Heap} {locs : List Loc} {ls : Array Slot} (hP : va_P (dC, dI) vwCl (fl [(w_X10 aX (0) cs en X), (w_X11 aM (0) cs σ)]) H) (hD : va_D (fun q : Nat => s.heap.size ≤ q) (fl [(w_X10 aX (0) cs en X), (w_X11 aM (0) cs σ)])) (hS : va_S (fun q : Nat => s.heap.size ≤ q) s.heap H locs) (hl : lv_has ls 4 [(0, .ref b), (1, .ref (aX 0)), (2, .ref (aM 0)), (3, .int (nI i))]) (kk : ∀ (X' : T5) (σ' : T2) (H1 : Heap) (locs1 : List Loc), Rel X' σ' → va_P (dC, dI) vwCl (fl [(w_X10 aX (0) cs en X'), (w_X11 aM (0) cs σ')]) H1 → va_D (fun q : Nat => s.heap.size ≤ q) (fl [(w_X10 aX (0) cs en X'), (w_X11 aM (0) cs σ')]) → va_S (fun q : Nat => s.heap.size ≤ q) s.heap H1 locs1 → W p l e room_1 s m #[Value.ref b] below meth c H1 locs1 213 3262 (lw_Z below #[Value.ref b] s) (F0 m 901 ls [])) : W p l e room_1 s m #[Value.ref b] below meth c H locs 213 3262 (lw_Z below #[Value.ref b] s) (F0 m 477 ls []) := by
  obtain ⟨hx, hb, hr, hml, hown, hts0, hX, hbl, hlocks, hgv⟩ := id C0
  have hown : s.vm.findClass RL = some m.cls := hown
  have hts : ∀ w ∈ wsL_law, w.before #[Value.ref b] s = true := fun w hw => hts0 w (wsL_law_in w hw)
  have hA : ∀ q : Nat, s.heap.size ≤ q → (fun q : Nat => s.heap.size ≤ q) q := fun _ h => h
  have hbA : ¬ (fun q : Nat => s.heap.size ≤ q) b := Nat.not_le.mpr hbl
  have h_1 : vp_in (nI i + nI 1) L := law_in (by omega) hL
  have h_2 : vp_in (nI i + nI 2) L := law_in (by omega) hL
  obtain ⟨r, X', σ', eX, eM, hRel'⟩ := L_go hRel (xs (nI i + nI 1).toNatClampNeg) (xs (nI i + nI 2).toNatClampNeg)
  refine lv_aload_n hx hb dL_law_477 rfl (lv_at hl 1 rfl) ?_
  refine lv_aload_n hx hb dL_law_478 rfl (lv_at hl 0 rfl) ?_
  refine lv_iload_n hx hb dL_law_479 rfl (lv_at hl 3 rfl) ?_
  refine lv_iconst (v := nI 1) hx hb dL_law_480 ic_1 ?_
  refine lv_iadd hx hb dL_law_481 ?_
  refine va_sld hx hb hX hbl hbA hS h_1 dL_law_482 ?_
  refine lv_aload_n hx hb dL_law_483 rfl (lv_at hl 0 rfl) ?_
  refine lv_iload_n hx hb dL_law_484 rfl (lv_at hl 3 rfl) ?_
  refine lv_iconst (v := nI 2) hx hb dL_law_485 ic_2 ?_
  refine lv_iadd hx hb dL_law_486 ?_
  refine va_sld hx hb hX hbl hbA hS h_2 dL_law_487 ?_
  refine cl_L (As := [.int (xs (nI i + nI 1).toNatClampNeg), .int (xs (nI i + nI 2).toNatClampNeg)]) (rest := []) (L := [(w_X10 aX (0) cs en X), (w_X11 aM (0) cs σ)]) (L' := [(w_X10 aX (0) cs en X'), (w_X11 aM (0) cs σ)]) (Wc := [(w_X10 aX (0) cs en X)]) (Wc' := [(w_X10 aX (0) cs en X')]) (is := [0]) (js := [1]) ⟨hx, hb, hml, hown, hts⟩ (k_X10_go l dC dI cs aX en H.size X (xs (nI i + nI 1).toNatClampNeg) (xs (nI i + nI 2).toNatClampNeg) r X' eX) (cwV 2 hts gL_law_X10_go rfl rfl rfl cd_X10_go ⟨(Nat.le_of_ble_eq_true rfl), (Nat.le_of_ble_eq_true rfl)⟩) hK hP hD hS hA ⟨rfl, rfl, rfl, rfl, rfl, rfl⟩ (jn_nd (is := [0]) hD rfl rfl) 0 8 rfl rfl rfl rfl rfl hl.1 (Nat.le_of_ble_eq_true rfl) dL_law_488 ⟨(Nat.le_of_ble_eq_true rfl), (Nat.le_of_ble_eq_true rfl)⟩ (fun H1 locs1 hP' hD' hS' => ?_)
  replace hP : va_P (dC, dI) vwCl (fl [(w_X10 aX (0) cs en X'), (w_X11 aM (0) cs σ)]) H1 := hP'
  replace hD : va_D (fun q : Nat => s.heap.size ≤ q) (fl [(w_X10 aX (0) cs en X'), (w_X11 aM (0) cs σ)]) := hD'
  replace hS := hS'
  clear hP' hD' hS'
  refine lv_aload_n hx hb dL_law_491 rfl (lv_at hl 2 rfl) ?_
  refine lv_aload_n hx hb dL_law_492 rfl (lv_at hl 0 rfl) ?_
  refine lv_iload_n hx hb dL_law_493 rfl (lv_at hl 3 rfl) ?_
  refine lv_iconst (v := nI 1) hx hb dL_law_494 ic_1 ?_
  refine lv_iadd hx hb dL_law_495 ?_
  refine va_sld hx hb hX hbl hbA hS h_1 dL_law_496 ?_
  refine lv_aload_n hx hb dL_law_497 rfl (lv_at hl 0 rfl) ?_
  refine lv_iload_n hx hb dL_law_498 rfl (lv_at hl 3 rfl) ?_
  refine lv_iconst (v := nI 2) hx hb dL_law_499 ic_2 ?_
  refine lv_iadd hx hb dL_law_500 ?_
  refine va_sld hx hb hX hbl hbA hS h_2 dL_law_501 ?_
  refine cl_L (As := [.int (xs (nI i + nI 1).toNatClampNeg), .int (xs (nI i + nI 2).toNatClampNeg)]) (rest := [.int r]) (L := [(w_X10 aX (0) cs en X'), (w_X11 aM (0) cs σ)]) (L' := [(w_X10 aX (0) cs en X'), (w_X11 aM (0) cs σ')]) (Wc := [(w_X11 aM (0) cs σ)]) (Wc' := [(w_X11 aM (0) cs σ')]) (is := [1]) (js := [0]) ⟨hx, hb, hml, hown, hts⟩ (k_X11_go l dC dI cs aM (0) H1.size σ (xs (nI i + nI 1).toNatClampNeg) (xs (nI i + nI 2).toNatClampNeg) r σ' eM) (cwV 2 hts gL_law_X11_go rfl rfl rfl cd_X11_go ⟨(Nat.le_of_ble_eq_true rfl), (Nat.le_of_ble_eq_true rfl)⟩) hK hP hD hS hA ⟨rfl, rfl, rfl, rfl, rfl, rfl⟩ (jn_nd (is := [1]) hD rfl rfl) 206 9 rfl rfl rfl rfl rfl hl.1 (Nat.le_of_ble_eq_true rfl) dL_law_502 ⟨(Nat.le_of_ble_eq_true rfl), (Nat.le_of_ble_eq_true rfl)⟩ (fun H2 locs2 hP' hD' hS' => ?_)
  replace hP : va_P (dC, dI) vwCl (fl [(w_X10 aX (0) cs en X'), (w_X11 aM (0) cs σ')]) H2 := hP'
  replace hD : va_D (fun q : Nat => s.heap.size ≤ q) (fl [(w_X10 aX (0) cs en X'), (w_X11 aM (0) cs σ')]) := hD'
  replace hS := hS'
  clear hP' hD' hS'
  refine lv_icmp_eq (tgt := 901) hx hb dL_law_505 (by decide) (fun _ => ?_) (fun c9 => absurd rfl c9)
  exact kk X' σ' _ _ hRel' hP hD hS
set_option maxHeartbeats 4000000 in
set_option maxRecDepth 100000 in
theorem law_mend {p : Program} {l : Launch} {e : Env} {s : State} {m : MethodId} {below : List Frame} {meth : Method} {c : Code} {b L : Nat} {xs : Nat → Int32} {dC : Nat → ClassId} {dI : Nat → Nat → Nat} {cs : Nat → ClassId} {aX aM en : Nat → Nat} (C0 : lw_At p s m meth c b L xs) (hL : L ≤ 1536) (hK : va_K (dC, dI) vwCl (tyL cs) s) {i : Nat} (hi : i + 3 ≤ L) {X : T5} {σ : T2} (hRel : Rel X σ) {H : Heap} {locs : List Loc} {ls : Array Slot} (hP : va_P (dC, dI) vwCl (fl [(w_X10 aX (0) cs en X), (w_X11 aM (0) cs σ)]) H) (hD : va_D (fun q : Nat => s.heap.size ≤ q) (fl [(w_X10 aX (0) cs en X), (w_X11 aM (0) cs σ)])) (hS : va_S (fun q : Nat => s.heap.size ≤ q) s.heap H locs) (hl : lv_has ls 4 [(0, .ref b), (1, .ref (aX 0)), (2, .ref (aM 0)), (3, .int (nI i))]) (kk : ∀ (X' : T5) (σ' : T2) (H1 : Heap) (locs1 : List Loc), Rel X' σ' → va_P (dC, dI) vwCl (fl [(w_X10 aX (0) cs en X'), (w_X11 aM (0) cs σ')]) H1 → va_D (fun q : Nat => s.heap.size ≤ q) (fl [(w_X10 aX (0) cs en X'), (w_X11 aM (0) cs σ')]) → va_S (fun q : Nat => s.heap.size ≤ q) s.heap H1 locs1 → W p l e room_1 s m #[Value.ref b] below meth c H1 locs1 213 3262 (lw_Z below #[Value.ref b] s) (F0 m 901 ls [])) : W p l e room_1 s m #[Value.ref b] below meth c H locs 213 3262 (lw_Z below #[Value.ref b] s) (F0 m 510 ls []) := by
  obtain ⟨hx, hb, hr, hml, hown, hts0, hX, hbl, hlocks, hgv⟩ := id C0
  have hown : s.vm.findClass RL = some m.cls := hown
  have hts : ∀ w ∈ wsL_law, w.before #[Value.ref b] s = true := fun w hw => hts0 w (wsL_law_in w hw)
  have hA : ∀ q : Nat, s.heap.size ≤ q → (fun q : Nat => s.heap.size ≤ q) q := fun _ h => h
  have hbA : ¬ (fun q : Nat => s.heap.size ≤ q) b := Nat.not_le.mpr hbl
  have h_1 : vp_in (nI i + nI 1) L := law_in (by omega) hL
  have h_2 : vp_in (nI i + nI 2) L := law_in (by omega) hL
  obtain ⟨r, X', σ', eX, eM, hRel'⟩ := L_mend hRel (xs (nI i + nI 1).toNatClampNeg) (xs (nI i + nI 2).toNatClampNeg)
  refine lv_aload_n hx hb dL_law_510 rfl (lv_at hl 1 rfl) ?_
  refine lv_aload_n hx hb dL_law_511 rfl (lv_at hl 0 rfl) ?_
  refine lv_iload_n hx hb dL_law_512 rfl (lv_at hl 3 rfl) ?_
  refine lv_iconst (v := nI 1) hx hb dL_law_513 ic_1 ?_
  refine lv_iadd hx hb dL_law_514 ?_
  refine va_sld hx hb hX hbl hbA hS h_1 dL_law_515 ?_
  refine lv_aload_n hx hb dL_law_516 rfl (lv_at hl 0 rfl) ?_
  refine lv_iload_n hx hb dL_law_517 rfl (lv_at hl 3 rfl) ?_
  refine lv_iconst (v := nI 2) hx hb dL_law_518 ic_2 ?_
  refine lv_iadd hx hb dL_law_519 ?_
  refine va_sld hx hb hX hbl hbA hS h_2 dL_law_520 ?_
  refine cl_L (As := [.int (xs (nI i + nI 1).toNatClampNeg), .int (xs (nI i + nI 2).toNatClampNeg)]) (rest := []) (L := [(w_X10 aX (0) cs en X), (w_X11 aM (0) cs σ)]) (L' := [(w_X10 aX (0) cs en X'), (w_X11 aM (0) cs σ)]) (Wc := [(w_X10 aX (0) cs en X)]) (Wc' := [(w_X10 aX (0) cs en X')]) (is := [0]) (js := [1]) ⟨hx, hb, hml, hown, hts⟩ (k_X10_mend l dC dI cs aX en H.size X (xs (nI i + nI 1).toNatClampNeg) (xs (nI i + nI 2).toNatClampNeg) r X' eX) (cwV 2 hts gL_law_X10_mend rfl rfl rfl cd_X10_mend ⟨(Nat.le_of_ble_eq_true rfl), (Nat.le_of_ble_eq_true rfl)⟩) hK hP hD hS hA ⟨rfl, rfl, rfl, rfl, rfl, rfl⟩ (jn_nd (is := [0]) hD rfl rfl) 0 8 rfl rfl rfl rfl rfl hl.1 (Nat.le_of_ble_eq_true rfl) dL_law_521 ⟨(Nat.le_of_ble_eq_true rfl), (Nat.le_of_ble_eq_true rfl)⟩ (fun H1 locs1 hP' hD' hS' => ?_)
  replace hP : va_P (dC, dI) vwCl (fl [(w_X10 aX (0) cs en X'), (w_X11 aM (0) cs σ)]) H1 := hP'
  replace hD : va_D (fun q : Nat => s.heap.size ≤ q) (fl [(w_X10 aX (0) cs en X'), (w_X11 aM (0) cs σ)]) := hD'
  replace hS := hS'
  clear hP' hD' hS'
  refine lv_aload_n hx hb dL_law_524 rfl (lv_at hl 2 rfl) ?_
  refine lv_aload_n hx hb dL_law_525 rfl (lv_at hl 0 rfl) ?_
  refine lv_iload_n hx hb dL_law_526 rfl (lv_at hl 3 rfl) ?_
  refine lv_iconst (v := nI 1) hx hb dL_law_527 ic_1 ?_
  refine lv_iadd hx hb dL_law_528 ?_
  refine va_sld hx hb hX hbl hbA hS h_1 dL_law_529 ?_
  refine lv_aload_n hx hb dL_law_530 rfl (lv_at hl 0 rfl) ?_
  refine lv_iload_n hx hb dL_law_531 rfl (lv_at hl 3 rfl) ?_
  refine lv_iconst (v := nI 2) hx hb dL_law_532 ic_2 ?_
  refine lv_iadd hx hb dL_law_533 ?_
  refine va_sld hx hb hX hbl hbA hS h_2 dL_law_534 ?_
  refine cl_L (As := [.int (xs (nI i + nI 1).toNatClampNeg), .int (xs (nI i + nI 2).toNatClampNeg)]) (rest := [.int r]) (L := [(w_X10 aX (0) cs en X'), (w_X11 aM (0) cs σ)]) (L' := [(w_X10 aX (0) cs en X'), (w_X11 aM (0) cs σ')]) (Wc := [(w_X11 aM (0) cs σ)]) (Wc' := [(w_X11 aM (0) cs σ')]) (is := [1]) (js := [0]) ⟨hx, hb, hml, hown, hts⟩ (k_X11_mend l dC dI cs aM (0) H1.size σ (xs (nI i + nI 1).toNatClampNeg) (xs (nI i + nI 2).toNatClampNeg) r σ' eM) (cwV 2 hts gL_law_X11_mend rfl rfl rfl cd_X11_mend ⟨(Nat.le_of_ble_eq_true rfl), (Nat.le_of_ble_eq_true rfl)⟩) hK hP hD hS hA ⟨rfl, rfl, rfl, rfl, rfl, rfl⟩ (jn_nd (is := [1]) hD rfl rfl) 206 9 rfl rfl rfl rfl rfl hl.1 (Nat.le_of_ble_eq_true rfl) dL_law_535 ⟨(Nat.le_of_ble_eq_true rfl), (Nat.le_of_ble_eq_true rfl)⟩ (fun H2 locs2 hP' hD' hS' => ?_)
  replace hP : va_P (dC, dI) vwCl (fl [(w_X10 aX (0) cs en X'), (w_X11 aM (0) cs σ')]) H2 := hP'
  replace hD : va_D (fun q : Nat => s.heap.size ≤ q) (fl [(w_X10 aX (0) cs en X'), (w_X11 aM (0) cs σ')]) := hD'
  replace hS := hS'
  clear hP' hD' hS'
  refine lv_icmp_eq (tgt := 901) hx hb dL_law_538 (by decide) (fun _ => ?_) (fun c9 => absurd rfl c9)
  exact kk X' σ' _ _ hRel' hP hD hS
set_option maxHeartbeats 4000000 in
set_option maxRecDepth 100000 in
theorem law_pause {p : Program} {l : Launch} {e : Env} {s : State} {m : MethodId} {below : List Frame} {meth : Method} {c : Code} {b L : Nat} {xs : Nat → Int32} {dC : Nat → ClassId} {dI : Nat → Nat → Nat} {cs : Nat → ClassId} {aX aM en : Nat → Nat} (C0 : lw_At p s m meth c b L xs) (hL : L ≤ 1536) (hK : va_K (dC, dI) vwCl (tyL cs) s) {i : Nat} (hi : i + 3 ≤ L) {X : T5} {σ : T2} (hRel : Rel X σ) {H : Heap} {locs : List Loc} {ls : Array Slot} (hP : va_P (dC, dI) vwCl (fl [(w_X10 aX (0) cs en X), (w_X11 aM (0) cs σ)]) H) (hD : va_D (fun q : Nat => s.heap.size ≤ q) (fl [(w_X10 aX (0) cs en X), (w_X11 aM (0) cs σ)])) (hS : va_S (fun q : Nat => s.heap.size ≤ q) s.heap H locs) (hl : lv_has ls 4 [(0, .ref b), (1, .ref (aX 0)), (2, .ref (aM 0)), (3, .int (nI i))]) (kk : ∀ (X' : T5) (σ' : T2) (H1 : Heap) (locs1 : List Loc), Rel X' σ' → va_P (dC, dI) vwCl (fl [(w_X10 aX (0) cs en X'), (w_X11 aM (0) cs σ')]) H1 → va_D (fun q : Nat => s.heap.size ≤ q) (fl [(w_X10 aX (0) cs en X'), (w_X11 aM (0) cs σ')]) → va_S (fun q : Nat => s.heap.size ≤ q) s.heap H1 locs1 → W p l e room_1 s m #[Value.ref b] below meth c H1 locs1 213 3262 (lw_Z below #[Value.ref b] s) (F0 m 901 ls [])) : W p l e room_1 s m #[Value.ref b] below meth c H locs 213 3262 (lw_Z below #[Value.ref b] s) (F0 m 543 ls []) := by
  obtain ⟨hx, hb, hr, hml, hown, hts0, hX, hbl, hlocks, hgv⟩ := id C0
  have hown : s.vm.findClass RL = some m.cls := hown
  have hts : ∀ w ∈ wsL_law, w.before #[Value.ref b] s = true := fun w hw => hts0 w (wsL_law_in w hw)
  have hA : ∀ q : Nat, s.heap.size ≤ q → (fun q : Nat => s.heap.size ≤ q) q := fun _ h => h
  have hbA : ¬ (fun q : Nat => s.heap.size ≤ q) b := Nat.not_le.mpr hbl
  have h_1 : vp_in (nI i + nI 1) L := law_in (by omega) hL
  obtain ⟨r, X', σ', eX, eM, hRel'⟩ := L_pause hRel (xs (nI i + nI 1).toNatClampNeg)
  refine lv_aload_n hx hb dL_law_543 rfl (lv_at hl 1 rfl) ?_
  refine lv_aload_n hx hb dL_law_544 rfl (lv_at hl 0 rfl) ?_
  refine lv_iload_n hx hb dL_law_545 rfl (lv_at hl 3 rfl) ?_
  refine lv_iconst (v := nI 1) hx hb dL_law_546 ic_1 ?_
  refine lv_iadd hx hb dL_law_547 ?_
  refine va_sld hx hb hX hbl hbA hS h_1 dL_law_548 ?_
  refine cl_L (As := [.int (xs (nI i + nI 1).toNatClampNeg)]) (rest := []) (L := [(w_X10 aX (0) cs en X), (w_X11 aM (0) cs σ)]) (L' := [(w_X10 aX (0) cs en X'), (w_X11 aM (0) cs σ)]) (Wc := [(w_X10 aX (0) cs en X)]) (Wc' := [(w_X10 aX (0) cs en X')]) (is := [0]) (js := [1]) ⟨hx, hb, hml, hown, hts⟩ (k_X10_pause l dC dI cs aX en H.size X (xs (nI i + nI 1).toNatClampNeg) r X' eX) (cwV 1 hts gL_law_X10_pause rfl rfl rfl cd_X10_pause ⟨(Nat.le_of_ble_eq_true rfl), (Nat.le_of_ble_eq_true rfl)⟩) hK hP hD hS hA ⟨rfl, rfl, rfl, rfl, rfl, rfl⟩ (jn_nd (is := [0]) hD rfl rfl) 0 8 rfl rfl rfl rfl rfl hl.1 (Nat.le_of_ble_eq_true rfl) dL_law_549 ⟨(Nat.le_of_ble_eq_true rfl), (Nat.le_of_ble_eq_true rfl)⟩ (fun H1 locs1 hP' hD' hS' => ?_)
  replace hP : va_P (dC, dI) vwCl (fl [(w_X10 aX (0) cs en X'), (w_X11 aM (0) cs σ)]) H1 := hP'
  replace hD : va_D (fun q : Nat => s.heap.size ≤ q) (fl [(w_X10 aX (0) cs en X'), (w_X11 aM (0) cs σ)]) := hD'
  replace hS := hS'
  clear hP' hD' hS'
  refine lv_aload_n hx hb dL_law_552 rfl (lv_at hl 2 rfl) ?_
  refine lv_aload_n hx hb dL_law_553 rfl (lv_at hl 0 rfl) ?_
  refine lv_iload_n hx hb dL_law_554 rfl (lv_at hl 3 rfl) ?_
  refine lv_iconst (v := nI 1) hx hb dL_law_555 ic_1 ?_
  refine lv_iadd hx hb dL_law_556 ?_
  refine va_sld hx hb hX hbl hbA hS h_1 dL_law_557 ?_
  refine cl_L (As := [.int (xs (nI i + nI 1).toNatClampNeg)]) (rest := [.int r]) (L := [(w_X10 aX (0) cs en X'), (w_X11 aM (0) cs σ)]) (L' := [(w_X10 aX (0) cs en X'), (w_X11 aM (0) cs σ')]) (Wc := [(w_X11 aM (0) cs σ)]) (Wc' := [(w_X11 aM (0) cs σ')]) (is := [1]) (js := [0]) ⟨hx, hb, hml, hown, hts⟩ (k_X11_pause l dC dI cs aM (0) H1.size σ (xs (nI i + nI 1).toNatClampNeg) r σ' eM) (cwV 1 hts gL_law_X11_pause rfl rfl rfl cd_X11_pause ⟨(Nat.le_of_ble_eq_true rfl), (Nat.le_of_ble_eq_true rfl)⟩) hK hP hD hS hA ⟨rfl, rfl, rfl, rfl, rfl, rfl⟩ (jn_nd (is := [1]) hD rfl rfl) 206 9 rfl rfl rfl rfl rfl hl.1 (Nat.le_of_ble_eq_true rfl) dL_law_558 ⟨(Nat.le_of_ble_eq_true rfl), (Nat.le_of_ble_eq_true rfl)⟩ (fun H2 locs2 hP' hD' hS' => ?_)
  replace hP : va_P (dC, dI) vwCl (fl [(w_X10 aX (0) cs en X'), (w_X11 aM (0) cs σ')]) H2 := hP'
  replace hD : va_D (fun q : Nat => s.heap.size ≤ q) (fl [(w_X10 aX (0) cs en X'), (w_X11 aM (0) cs σ')]) := hD'
  replace hS := hS'
  clear hP' hD' hS'
  refine lv_icmp_eq (tgt := 901) hx hb dL_law_561 (by decide) (fun _ => ?_) (fun c9 => absurd rfl c9)
  exact kk X' σ' _ _ hRel' hP hD hS
set_option maxHeartbeats 4000000 in
set_option maxRecDepth 100000 in
theorem law_set {p : Program} {l : Launch} {e : Env} {s : State} {m : MethodId} {below : List Frame} {meth : Method} {c : Code} {b L : Nat} {xs : Nat → Int32} {dC : Nat → ClassId} {dI : Nat → Nat → Nat} {cs : Nat → ClassId} {aX aM en : Nat → Nat} (C0 : lw_At p s m meth c b L xs) (hL : L ≤ 1536) (hK : va_K (dC, dI) vwCl (tyL cs) s) {i : Nat} (hi : i + 3 ≤ L) {X : T5} {σ : T2} (hRel : Rel X σ) {H : Heap} {locs : List Loc} {ls : Array Slot} (hP : va_P (dC, dI) vwCl (fl [(w_X10 aX (0) cs en X), (w_X11 aM (0) cs σ)]) H) (hD : va_D (fun q : Nat => s.heap.size ≤ q) (fl [(w_X10 aX (0) cs en X), (w_X11 aM (0) cs σ)])) (hS : va_S (fun q : Nat => s.heap.size ≤ q) s.heap H locs) (hl : lv_has ls 4 [(0, .ref b), (1, .ref (aX 0)), (2, .ref (aM 0)), (3, .int (nI i))]) (kk : ∀ (X' : T5) (σ' : T2) (H1 : Heap) (locs1 : List Loc), Rel X' σ' → va_P (dC, dI) vwCl (fl [(w_X10 aX (0) cs en X'), (w_X11 aM (0) cs σ')]) H1 → va_D (fun q : Nat => s.heap.size ≤ q) (fl [(w_X10 aX (0) cs en X'), (w_X11 aM (0) cs σ')]) → va_S (fun q : Nat => s.heap.size ≤ q) s.heap H1 locs1 → W p l e room_1 s m #[Value.ref b] below meth c H1 locs1 213 3262 (lw_Z below #[Value.ref b] s) (F0 m 901 ls [])) : W p l e room_1 s m #[Value.ref b] below meth c H locs 213 3262 (lw_Z below #[Value.ref b] s) (F0 m 566 ls []) := by
  obtain ⟨hx, hb, hr, hml, hown, hts0, hX, hbl, hlocks, hgv⟩ := id C0
  have hown : s.vm.findClass RL = some m.cls := hown
  have hts : ∀ w ∈ wsL_law, w.before #[Value.ref b] s = true := fun w hw => hts0 w (wsL_law_in w hw)
  have hA : ∀ q : Nat, s.heap.size ≤ q → (fun q : Nat => s.heap.size ≤ q) q := fun _ h => h
  have hbA : ¬ (fun q : Nat => s.heap.size ≤ q) b := Nat.not_le.mpr hbl
  have h_1 : vp_in (nI i + nI 1) L := law_in (by omega) hL
  have h_2 : vp_in (nI i + nI 2) L := law_in (by omega) hL
  obtain ⟨r, X', σ', eX, eM, hRel'⟩ := L_set hRel (xs (nI i + nI 1).toNatClampNeg) (xs (nI i + nI 2).toNatClampNeg)
  refine lv_aload_n hx hb dL_law_566 rfl (lv_at hl 1 rfl) ?_
  refine lv_aload_n hx hb dL_law_567 rfl (lv_at hl 0 rfl) ?_
  refine lv_iload_n hx hb dL_law_568 rfl (lv_at hl 3 rfl) ?_
  refine lv_iconst (v := nI 1) hx hb dL_law_569 ic_1 ?_
  refine lv_iadd hx hb dL_law_570 ?_
  refine va_sld hx hb hX hbl hbA hS h_1 dL_law_571 ?_
  refine lv_aload_n hx hb dL_law_572 rfl (lv_at hl 0 rfl) ?_
  refine lv_iload_n hx hb dL_law_573 rfl (lv_at hl 3 rfl) ?_
  refine lv_iconst (v := nI 2) hx hb dL_law_574 ic_2 ?_
  refine lv_iadd hx hb dL_law_575 ?_
  refine va_sld hx hb hX hbl hbA hS h_2 dL_law_576 ?_
  refine cl_L (As := [.int (xs (nI i + nI 1).toNatClampNeg), .int (xs (nI i + nI 2).toNatClampNeg)]) (rest := []) (L := [(w_X10 aX (0) cs en X), (w_X11 aM (0) cs σ)]) (L' := [(w_X10 aX (0) cs en X'), (w_X11 aM (0) cs σ)]) (Wc := [(w_X10 aX (0) cs en X)]) (Wc' := [(w_X10 aX (0) cs en X')]) (is := [0]) (js := [1]) ⟨hx, hb, hml, hown, hts⟩ (k_X10_set l dC dI cs aX en H.size X (xs (nI i + nI 1).toNatClampNeg) (xs (nI i + nI 2).toNatClampNeg) r X' eX) (cwV 2 hts gL_law_X10_set rfl rfl rfl cd_X10_set ⟨(Nat.le_of_ble_eq_true rfl), (Nat.le_of_ble_eq_true rfl)⟩) hK hP hD hS hA ⟨rfl, rfl, rfl, rfl, rfl, rfl⟩ (jn_nd (is := [0]) hD rfl rfl) 0 8 rfl rfl rfl rfl rfl hl.1 (Nat.le_of_ble_eq_true rfl) dL_law_577 ⟨(Nat.le_of_ble_eq_true rfl), (Nat.le_of_ble_eq_true rfl)⟩ (fun H1 locs1 hP' hD' hS' => ?_)
  replace hP : va_P (dC, dI) vwCl (fl [(w_X10 aX (0) cs en X'), (w_X11 aM (0) cs σ)]) H1 := hP'
  replace hD : va_D (fun q : Nat => s.heap.size ≤ q) (fl [(w_X10 aX (0) cs en X'), (w_X11 aM (0) cs σ)]) := hD'
  replace hS := hS'
  clear hP' hD' hS'
  refine lv_aload_n hx hb dL_law_580 rfl (lv_at hl 2 rfl) ?_
  refine lv_aload_n hx hb dL_law_581 rfl (lv_at hl 0 rfl) ?_
  refine lv_iload_n hx hb dL_law_582 rfl (lv_at hl 3 rfl) ?_
  refine lv_iconst (v := nI 1) hx hb dL_law_583 ic_1 ?_
  refine lv_iadd hx hb dL_law_584 ?_
  refine va_sld hx hb hX hbl hbA hS h_1 dL_law_585 ?_
  refine lv_aload_n hx hb dL_law_586 rfl (lv_at hl 0 rfl) ?_
  refine lv_iload_n hx hb dL_law_587 rfl (lv_at hl 3 rfl) ?_
  refine lv_iconst (v := nI 2) hx hb dL_law_588 ic_2 ?_
  refine lv_iadd hx hb dL_law_589 ?_
  refine va_sld hx hb hX hbl hbA hS h_2 dL_law_590 ?_
  refine cl_L (As := [.int (xs (nI i + nI 1).toNatClampNeg), .int (xs (nI i + nI 2).toNatClampNeg)]) (rest := [.int r]) (L := [(w_X10 aX (0) cs en X'), (w_X11 aM (0) cs σ)]) (L' := [(w_X10 aX (0) cs en X'), (w_X11 aM (0) cs σ')]) (Wc := [(w_X11 aM (0) cs σ)]) (Wc' := [(w_X11 aM (0) cs σ')]) (is := [1]) (js := [0]) ⟨hx, hb, hml, hown, hts⟩ (k_X11_set l dC dI cs aM (0) H1.size σ (xs (nI i + nI 1).toNatClampNeg) (xs (nI i + nI 2).toNatClampNeg) r σ' eM) (cwV 2 hts gL_law_X11_set rfl rfl rfl cd_X11_set ⟨(Nat.le_of_ble_eq_true rfl), (Nat.le_of_ble_eq_true rfl)⟩) hK hP hD hS hA ⟨rfl, rfl, rfl, rfl, rfl, rfl⟩ (jn_nd (is := [1]) hD rfl rfl) 206 9 rfl rfl rfl rfl rfl hl.1 (Nat.le_of_ble_eq_true rfl) dL_law_591 ⟨(Nat.le_of_ble_eq_true rfl), (Nat.le_of_ble_eq_true rfl)⟩ (fun H2 locs2 hP' hD' hS' => ?_)
  replace hP : va_P (dC, dI) vwCl (fl [(w_X10 aX (0) cs en X'), (w_X11 aM (0) cs σ')]) H2 := hP'
  replace hD : va_D (fun q : Nat => s.heap.size ≤ q) (fl [(w_X10 aX (0) cs en X'), (w_X11 aM (0) cs σ')]) := hD'
  replace hS := hS'
  clear hP' hD' hS'
  refine lv_icmp_eq (tgt := 901) hx hb dL_law_594 (by decide) (fun _ => ?_) (fun c9 => absurd rfl c9)
  exact kk X' σ' _ _ hRel' hP hD hS
set_option maxHeartbeats 4000000 in
set_option maxRecDepth 100000 in
theorem law_stationOf {p : Program} {l : Launch} {e : Env} {s : State} {m : MethodId} {below : List Frame} {meth : Method} {c : Code} {b L : Nat} {xs : Nat → Int32} {dC : Nat → ClassId} {dI : Nat → Nat → Nat} {cs : Nat → ClassId} {aX aM en : Nat → Nat} (C0 : lw_At p s m meth c b L xs) (hL : L ≤ 1536) (hK : va_K (dC, dI) vwCl (tyL cs) s) {i : Nat} (hi : i + 3 ≤ L) {X : T5} {σ : T2} (hRel : Rel X σ) {H : Heap} {locs : List Loc} {ls : Array Slot} (hP : va_P (dC, dI) vwCl (fl [(w_X10 aX (0) cs en X), (w_X11 aM (0) cs σ)]) H) (hD : va_D (fun q : Nat => s.heap.size ≤ q) (fl [(w_X10 aX (0) cs en X), (w_X11 aM (0) cs σ)])) (hS : va_S (fun q : Nat => s.heap.size ≤ q) s.heap H locs) (hl : lv_has ls 4 [(0, .ref b), (1, .ref (aX 0)), (2, .ref (aM 0)), (3, .int (nI i))]) (kk : ∀ (X' : T5) (σ' : T2) (H1 : Heap) (locs1 : List Loc), Rel X' σ' → va_P (dC, dI) vwCl (fl [(w_X10 aX (0) cs en X'), (w_X11 aM (0) cs σ')]) H1 → va_D (fun q : Nat => s.heap.size ≤ q) (fl [(w_X10 aX (0) cs en X'), (w_X11 aM (0) cs σ')]) → va_S (fun q : Nat => s.heap.size ≤ q) s.heap H1 locs1 → W p l e room_1 s m #[Value.ref b] below meth c H1 locs1 213 3262 (lw_Z below #[Value.ref b] s) (F0 m 901 ls [])) : W p l e room_1 s m #[Value.ref b] below meth c H locs 213 3262 (lw_Z below #[Value.ref b] s) (F0 m 599 ls []) := by
  obtain ⟨hx, hb, hr, hml, hown, hts0, hX, hbl, hlocks, hgv⟩ := id C0
  have hown : s.vm.findClass RL = some m.cls := hown
  have hts : ∀ w ∈ wsL_law, w.before #[Value.ref b] s = true := fun w hw => hts0 w (wsL_law_in w hw)
  have hA : ∀ q : Nat, s.heap.size ≤ q → (fun q : Nat => s.heap.size ≤ q) q := fun _ h => h
  have hbA : ¬ (fun q : Nat => s.heap.size ≤ q) b := Nat.not_le.mpr hbl
  have h_1 : vp_in (nI i + nI 1) L := law_in (by omega) hL
  have h_2 : vp_in (nI i + nI 2) L := law_in (by omega) hL
  obtain ⟨r, X', eX, eM, hRel'⟩ := r_stationOf hRel (xs (nI i + nI 1).toNatClampNeg) (xs (nI i + nI 2).toNatClampNeg)
  refine lv_aload_n hx hb dL_law_599 rfl (lv_at hl 1 rfl) ?_
  refine lv_aload_n hx hb dL_law_600 rfl (lv_at hl 0 rfl) ?_
  refine lv_iload_n hx hb dL_law_601 rfl (lv_at hl 3 rfl) ?_
  refine lv_iconst (v := nI 1) hx hb dL_law_602 ic_1 ?_
  refine lv_iadd hx hb dL_law_603 ?_
  refine va_sld hx hb hX hbl hbA hS h_1 dL_law_604 ?_
  refine lv_aload_n hx hb dL_law_605 rfl (lv_at hl 0 rfl) ?_
  refine lv_iload_n hx hb dL_law_606 rfl (lv_at hl 3 rfl) ?_
  refine lv_iconst (v := nI 2) hx hb dL_law_607 ic_2 ?_
  refine lv_iadd hx hb dL_law_608 ?_
  refine va_sld hx hb hX hbl hbA hS h_2 dL_law_609 ?_
  refine cl_L (As := [.int (xs (nI i + nI 1).toNatClampNeg), .int (xs (nI i + nI 2).toNatClampNeg)]) (rest := []) (L := [(w_X10 aX (0) cs en X), (w_X11 aM (0) cs σ)]) (L' := [(w_X10 aX (0) cs en X'), (w_X11 aM (0) cs σ)]) (Wc := [(w_X10 aX (0) cs en X)]) (Wc' := [(w_X10 aX (0) cs en X')]) (is := [0]) (js := [1]) ⟨hx, hb, hml, hown, hts⟩ (k_X10_stationOf l dC dI cs aX en H.size X (xs (nI i + nI 1).toNatClampNeg) (xs (nI i + nI 2).toNatClampNeg) r X' eX) (cwV 2 hts gL_law_X10_stationOf rfl rfl rfl cd_X10_stationOf ⟨(Nat.le_of_ble_eq_true rfl), (Nat.le_of_ble_eq_true rfl)⟩) hK hP hD hS hA ⟨rfl, rfl, rfl, rfl, rfl, rfl⟩ (jn_nd (is := [0]) hD rfl rfl) 0 8 rfl rfl rfl rfl rfl hl.1 (Nat.le_of_ble_eq_true rfl) dL_law_610 ⟨(Nat.le_of_ble_eq_true rfl), (Nat.le_of_ble_eq_true rfl)⟩ (fun H1 locs1 hP' hD' hS' => ?_)
  replace hP : va_P (dC, dI) vwCl (fl [(w_X10 aX (0) cs en X'), (w_X11 aM (0) cs σ)]) H1 := hP'
  replace hD : va_D (fun q : Nat => s.heap.size ≤ q) (fl [(w_X10 aX (0) cs en X'), (w_X11 aM (0) cs σ)]) := hD'
  replace hS := hS'
  clear hP' hD' hS'
  refine lv_aload_n hx hb dL_law_613 rfl (lv_at hl 2 rfl) ?_
  refine lv_aload_n hx hb dL_law_614 rfl (lv_at hl 0 rfl) ?_
  refine lv_iload_n hx hb dL_law_615 rfl (lv_at hl 3 rfl) ?_
  refine lv_iconst (v := nI 1) hx hb dL_law_616 ic_1 ?_
  refine lv_iadd hx hb dL_law_617 ?_
  refine va_sld hx hb hX hbl hbA hS h_1 dL_law_618 ?_
  refine lv_aload_n hx hb dL_law_619 rfl (lv_at hl 0 rfl) ?_
  refine lv_iload_n hx hb dL_law_620 rfl (lv_at hl 3 rfl) ?_
  refine lv_iconst (v := nI 2) hx hb dL_law_621 ic_2 ?_
  refine lv_iadd hx hb dL_law_622 ?_
  refine va_sld hx hb hX hbl hbA hS h_2 dL_law_623 ?_
  refine cl_L (As := [.int (xs (nI i + nI 1).toNatClampNeg), .int (xs (nI i + nI 2).toNatClampNeg)]) (rest := [.int r]) (L := [(w_X10 aX (0) cs en X'), (w_X11 aM (0) cs σ)]) (L' := [(w_X10 aX (0) cs en X'), (w_X11 aM (0) cs σ)]) (Wc := [(w_X11 aM (0) cs σ)]) (Wc' := [(w_X11 aM (0) cs σ)]) (is := [1]) (js := [0]) ⟨hx, hb, hml, hown, hts⟩ (k_X11_stationOf l dC dI cs aM (0) H1.size σ (xs (nI i + nI 1).toNatClampNeg) (xs (nI i + nI 2).toNatClampNeg) r eM) (cwV 2 hts gL_law_X11_stationOf rfl rfl rfl cd_X11_stationOf ⟨(Nat.le_of_ble_eq_true rfl), (Nat.le_of_ble_eq_true rfl)⟩) hK hP hD hS hA ⟨rfl, rfl, rfl, rfl, rfl, rfl⟩ (jn_nd (is := [1]) hD rfl rfl) 206 9 rfl rfl rfl rfl rfl hl.1 (Nat.le_of_ble_eq_true rfl) dL_law_624 ⟨(Nat.le_of_ble_eq_true rfl), (Nat.le_of_ble_eq_true rfl)⟩ (fun H2 locs2 hP' hD' hS' => ?_)
  replace hP : va_P (dC, dI) vwCl (fl [(w_X10 aX (0) cs en X'), (w_X11 aM (0) cs σ)]) H2 := hP'
  replace hD : va_D (fun q : Nat => s.heap.size ≤ q) (fl [(w_X10 aX (0) cs en X'), (w_X11 aM (0) cs σ)]) := hD'
  replace hS := hS'
  clear hP' hD' hS'
  refine lv_icmp_eq (tgt := 901) hx hb dL_law_627 (by decide) (fun _ => ?_) (fun c9 => absurd rfl c9)
  exact kk X' σ _ _ hRel' hP hD hS
