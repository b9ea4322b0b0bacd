set_option maxHeartbeats 4000000 in
set_option maxRecDepth 100000 in
theorem law_undo {p : Program} {l : Launch} {e : Env} {s : State} {m : MethodId} {below : List Frame} {meth : Method} {c : Code} {b L : Nat} {xs : Nat → Int32} {dC : Nat → ClassId} {dI : Nat → Nat → Nat} {cs : Nat → ClassId} {aX aM en : Nat → Nat} (C0 : lw_At p s m meth c b L xs) (hL : L ≤ 1536) (hK : va_K (dC, dI) vwCl (tyL cs) s) {i : Nat} (hi : i + 3 ≤ L) {X : T5} {σ : T2} (hRel : Rel X σ) {H : Heap} {locs : List Loc} {ls : Array Slot} (hP : va_P (dC, dI) vwCl (fl [(w_X10 aX (0) cs en X), (w_X11 aM (0) cs σ)]) H) (hD : va_D (fun q : Nat => s.heap.size ≤ q) (fl [(w_X10 aX (0) cs en X), (w_X11 aM (0) cs σ)])) (hS : va_S (fun q : Nat => s.heap.size ≤ q) s.heap H locs) (hl : lv_has ls 4 [(0, .ref b), (1, .ref (aX 0)), (2, .ref (aM 0)), (3, .int (nI i))]) (kk : ∀ (X' : T5) (σ' : T2) (H1 : Heap) (locs1 : List Loc), Rel X' σ' → va_P (dC, dI) vwCl (fl [(w_X10 aX (0) cs en X'), (w_X11 aM (0) cs σ')]) H1 → va_D (fun q : Nat => s.heap.size ≤ q) (fl [(w_X10 aX (0) cs en X'), (w_X11 aM (0) cs σ')]) → va_S (fun q : Nat => s.heap.size ≤ q) s.heap H1 locs1 → W p l e room_1 s m #[Value.ref b] below meth c H1 locs1 213 3262 (lw_Z below #[Value.ref b] s) (F0 m 901 ls [])) : W p l e room_1 s m #[Value.ref b] below meth c H locs 213 3262 (lw_Z below #[Value.ref b] s) (F0 m 816 ls []) := by
  obtain ⟨hx, hb, hr, hml, hown, hts0, hX, hbl, hlocks, hgv⟩ := id C0
  have hown : s.vm.findClass RL = some m.cls := hown
  have hts : ∀ w ∈ wsL_law, w.before #[Value.ref b] s = true := fun w hw => hts0 w (wsL_law_in w hw)
  have hA : ∀ q : Nat, s.heap.size ≤ q → (fun q : Nat => s.heap.size ≤ q) q := fun _ h => h
  have hbA : ¬ (fun q : Nat => s.heap.size ≤ q) b := Nat.not_le.mpr hbl
  obtain ⟨r, X', σ', eX, eM, hRel'⟩ := L_undo hRel
  refine lv_aload_n hx hb dL_law_816 rfl (lv_at hl 1 rfl) ?_
  refine cl_L (As := []) (rest := []) (L := [(w_X10 aX (0) cs en X), (w_X11 aM (0) cs σ)]) (L' := [(w_X10 aX (0) cs en X'), (w_X11 aM (0) cs σ)]) (Wc := [(w_X10 aX (0) cs en X)]) (Wc' := [(w_X10 aX (0) cs en X')]) (is := [0]) (js := [1]) ⟨hx, hb, hml, hown, hts⟩ (k_X10_undo l dC dI cs aX en H.size X r X' eX) (cwV 0 hts gL_law_X10_undo rfl rfl rfl cd_X10_undo ⟨(Nat.le_of_ble_eq_true rfl), (Nat.le_of_ble_eq_true rfl)⟩) hK hP hD hS hA ⟨rfl, rfl, rfl, rfl, rfl, rfl⟩ (jn_nd (is := [0]) hD rfl rfl) 0 8 rfl rfl rfl rfl rfl hl.1 (Nat.le_of_ble_eq_true rfl) dL_law_817 ⟨(Nat.le_of_ble_eq_true rfl), (Nat.le_of_ble_eq_true rfl)⟩ (fun H1 locs1 hP' hD' hS' => ?_)
  replace hP : va_P (dC, dI) vwCl (fl [(w_X10 aX (0) cs en X'), (w_X11 aM (0) cs σ)]) H1 := hP'
  replace hD : va_D (fun q : Nat => s.heap.size ≤ q) (fl [(w_X10 aX (0) cs en X'), (w_X11 aM (0) cs σ)]) := hD'
  replace hS := hS'
  clear hP' hD' hS'
  refine lv_aload_n hx hb dL_law_820 rfl (lv_at hl 2 rfl) ?_
  refine cl_L (As := []) (rest := [.int r]) (L := [(w_X10 aX (0) cs en X'), (w_X11 aM (0) cs σ)]) (L' := [(w_X10 aX (0) cs en X'), (w_X11 aM (0) cs σ')]) (Wc := [(w_X11 aM (0) cs σ)]) (Wc' := [(w_X11 aM (0) cs σ')]) (is := [1]) (js := [0]) ⟨hx, hb, hml, hown, hts⟩ (k_X11_undo l dC dI cs aM (0) H1.size σ r σ' eM) (cwV 0 hts gL_law_X11_undo rfl rfl rfl cd_X11_undo ⟨(Nat.le_of_ble_eq_true rfl), (Nat.le_of_ble_eq_true rfl)⟩) hK hP hD hS hA ⟨rfl, rfl, rfl, rfl, rfl, rfl⟩ (jn_nd (is := [1]) hD rfl rfl) 206 9 rfl rfl rfl rfl rfl hl.1 (Nat.le_of_ble_eq_true rfl) dL_law_821 ⟨(Nat.le_of_ble_eq_true rfl), (Nat.le_of_ble_eq_true rfl)⟩ (fun H2 locs2 hP' hD' hS' => ?_)
  replace hP : va_P (dC, dI) vwCl (fl [(w_X10 aX (0) cs en X'), (w_X11 aM (0) cs σ')]) H2 := hP'
  replace hD : va_D (fun q : Nat => s.heap.size ≤ q) (fl [(w_X10 aX (0) cs en X'), (w_X11 aM (0) cs σ')]) := hD'
  replace hS := hS'
  clear hP' hD' hS'
  refine lv_icmp_eq (tgt := 901) hx hb dL_law_824 (by decide) (fun _ => ?_) (fun c9 => absurd rfl c9)
  exact kk X' σ' _ _ hRel' hP hD hS
set_option maxHeartbeats 4000000 in
set_option maxRecDepth 100000 in
theorem law_type {p : Program} {l : Launch} {e : Env} {s : State} {m : MethodId} {below : List Frame} {meth : Method} {c : Code} {b L : Nat} {xs : Nat → Int32} {dC : Nat → ClassId} {dI : Nat → Nat → Nat} {cs : Nat → ClassId} {aX aM en : Nat → Nat} (C0 : lw_At p s m meth c b L xs) (hL : L ≤ 1536) (hK : va_K (dC, dI) vwCl (tyL cs) s) {i : Nat} (hi : i + 3 ≤ L) {X : T5} {σ : T2} (hRel : Rel X σ) {H : Heap} {locs : List Loc} {ls : Array Slot} (hP : va_P (dC, dI) vwCl (fl [(w_X10 aX (0) cs en X), (w_X11 aM (0) cs σ)]) H) (hD : va_D (fun q : Nat => s.heap.size ≤ q) (fl [(w_X10 aX (0) cs en X), (w_X11 aM (0) cs σ)])) (hS : va_S (fun q : Nat => s.heap.size ≤ q) s.heap H locs) (hl : lv_has ls 4 [(0, .ref b), (1, .ref (aX 0)), (2, .ref (aM 0)), (3, .int (nI i))]) (kk : ∀ (X' : T5) (σ' : T2) (H1 : Heap) (locs1 : List Loc), Rel X' σ' → va_P (dC, dI) vwCl (fl [(w_X10 aX (0) cs en X'), (w_X11 aM (0) cs σ')]) H1 → va_D (fun q : Nat => s.heap.size ≤ q) (fl [(w_X10 aX (0) cs en X'), (w_X11 aM (0) cs σ')]) → va_S (fun q : Nat => s.heap.size ≤ q) s.heap H1 locs1 → W p l e room_1 s m #[Value.ref b] below meth c H1 locs1 213 3262 (lw_Z below #[Value.ref b] s) (F0 m 901 ls [])) : W p l e room_1 s m #[Value.ref b] below meth c H locs 213 3262 (lw_Z below #[Value.ref b] s) (F0 m 829 ls []) := by
  obtain ⟨hx, hb, hr, hml, hown, hts0, hX, hbl, hlocks, hgv⟩ := id C0
  have hown : s.vm.findClass RL = some m.cls := hown
  have hts : ∀ w ∈ wsL_law, w.before #[Value.ref b] s = true := fun w hw => hts0 w (wsL_law_in w hw)
  have hA : ∀ q : Nat, s.heap.size ≤ q → (fun q : Nat => s.heap.size ≤ q) q := fun _ h => h
  have hbA : ¬ (fun q : Nat => s.heap.size ≤ q) b := Nat.not_le.mpr hbl
  have h_1 : vp_in (nI i + nI 1) L := law_in (by omega) hL
  obtain ⟨r, X', σ', eX, eM, hRel'⟩ := L_type hRel (xs (nI i + nI 1).toNatClampNeg)
  refine lv_aload_n hx hb dL_law_829 rfl (lv_at hl 1 rfl) ?_
  refine lv_aload_n hx hb dL_law_830 rfl (lv_at hl 0 rfl) ?_
  refine lv_iload_n hx hb dL_law_831 rfl (lv_at hl 3 rfl) ?_
  refine lv_iconst (v := nI 1) hx hb dL_law_832 ic_1 ?_
  refine lv_iadd hx hb dL_law_833 ?_
  refine va_sld hx hb hX hbl hbA hS h_1 dL_law_834 ?_
  refine cl_L (As := [.int (xs (nI i + nI 1).toNatClampNeg)]) (rest := []) (L := [(w_X10 aX (0) cs en X), (w_X11 aM (0) cs σ)]) (L' := [(w_X10 aX (0) cs en X'), (w_X11 aM (0) cs σ)]) (Wc := [(w_X10 aX (0) cs en X)]) (Wc' := [(w_X10 aX (0) cs en X')]) (is := [0]) (js := [1]) ⟨hx, hb, hml, hown, hts⟩ (k_X10_type l dC dI cs aX en H.size X (xs (nI i + nI 1).toNatClampNeg) r X' eX) (cwV 1 hts gL_law_X10_type rfl rfl rfl cd_X10_type ⟨(Nat.le_of_ble_eq_true rfl), (Nat.le_of_ble_eq_true rfl)⟩) hK hP hD hS hA ⟨rfl, rfl, rfl, rfl, rfl, rfl⟩ (jn_nd (is := [0]) hD rfl rfl) 0 8 rfl rfl rfl rfl rfl hl.1 (Nat.le_of_ble_eq_true rfl) dL_law_835 ⟨(Nat.le_of_ble_eq_true rfl), (Nat.le_of_ble_eq_true rfl)⟩ (fun H1 locs1 hP' hD' hS' => ?_)
  replace hP : va_P (dC, dI) vwCl (fl [(w_X10 aX (0) cs en X'), (w_X11 aM (0) cs σ)]) H1 := hP'
  replace hD : va_D (fun q : Nat => s.heap.size ≤ q) (fl [(w_X10 aX (0) cs en X'), (w_X11 aM (0) cs σ)]) := hD'
  replace hS := hS'
  clear hP' hD' hS'
  refine lv_aload_n hx hb dL_law_838 rfl (lv_at hl 2 rfl) ?_
  refine lv_aload_n hx hb dL_law_839 rfl (lv_at hl 0 rfl) ?_
  refine lv_iload_n hx hb dL_law_840 rfl (lv_at hl 3 rfl) ?_
  refine lv_iconst (v := nI 1) hx hb dL_law_841 ic_1 ?_
  refine lv_iadd hx hb dL_law_842 ?_
  refine va_sld hx hb hX hbl hbA hS h_1 dL_law_843 ?_
  refine cl_L (As := [.int (xs (nI i + nI 1).toNatClampNeg)]) (rest := [.int r]) (L := [(w_X10 aX (0) cs en X'), (w_X11 aM (0) cs σ)]) (L' := [(w_X10 aX (0) cs en X'), (w_X11 aM (0) cs σ')]) (Wc := [(w_X11 aM (0) cs σ)]) (Wc' := [(w_X11 aM (0) cs σ')]) (is := [1]) (js := [0]) ⟨hx, hb, hml, hown, hts⟩ (k_X11_type l dC dI cs aM (0) H1.size σ (xs (nI i + nI 1).toNatClampNeg) r σ' eM) (cwV 1 hts gL_law_X11_type rfl rfl rfl cd_X11_type ⟨(Nat.le_of_ble_eq_true rfl), (Nat.le_of_ble_eq_true rfl)⟩) hK hP hD hS hA ⟨rfl, rfl, rfl, rfl, rfl, rfl⟩ (jn_nd (is := [1]) hD rfl rfl) 206 9 rfl rfl rfl rfl rfl hl.1 (Nat.le_of_ble_eq_true rfl) dL_law_844 ⟨(Nat.le_of_ble_eq_true rfl), (Nat.le_of_ble_eq_true rfl)⟩ (fun H2 locs2 hP' hD' hS' => ?_)
  replace hP : va_P (dC, dI) vwCl (fl [(w_X10 aX (0) cs en X'), (w_X11 aM (0) cs σ')]) H2 := hP'
  replace hD : va_D (fun q : Nat => s.heap.size ≤ q) (fl [(w_X10 aX (0) cs en X'), (w_X11 aM (0) cs σ')]) := hD'
  replace hS := hS'
  clear hP' hD' hS'
  refine lv_icmp_eq (tgt := 901) hx hb dL_law_847 (by decide) (fun _ => ?_) (fun c9 => absurd rfl c9)
  exact kk X' σ' _ _ hRel' hP hD hS
set_option maxHeartbeats 4000000 in
set_option maxRecDepth 100000 in
theorem law_clearText {p : Program} {l : Launch} {e : Env} {s : State} {m : MethodId} {below : List Frame} {meth : Method} {c : Code} {b L : Nat} {xs : Nat → Int32} {dC : Nat → ClassId} {dI : Nat → Nat → Nat} {cs : Nat → ClassId} {aX aM en : Nat → Nat} (C0 : lw_At p s m meth c b L xs) (hL : L ≤ 1536) (hK : va_K (dC, dI) vwCl (tyL cs) s) {i : Nat} (hi : i + 3 ≤ L) {X : T5} {σ : T2} (hRel : Rel X σ) {H : Heap} {locs : List Loc} {ls : Array Slot} (hP : va_P (dC, dI) vwCl (fl [(w_X10 aX (0) cs en X), (w_X11 aM (0) cs σ)]) H) (hD : va_D (fun q : Nat => s.heap.size ≤ q) (fl [(w_X10 aX (0) cs en X), (w_X11 aM (0) cs σ)])) (hS : va_S (fun q : Nat => s.heap.size ≤ q) s.heap H locs) (hl : lv_has ls 4 [(0, .ref b), (1, .ref (aX 0)), (2, .ref (aM 0)), (3, .int (nI i))]) (kk : ∀ (X' : T5) (σ' : T2) (H1 : Heap) (locs1 : List Loc), Rel X' σ' → va_P (dC, dI) vwCl (fl [(w_X10 aX (0) cs en X'), (w_X11 aM (0) cs σ')]) H1 → va_D (fun q : Nat => s.heap.size ≤ q) (fl [(w_X10 aX (0) cs en X'), (w_X11 aM (0) cs σ')]) → va_S (fun q : Nat => s.heap.size ≤ q) s.heap H1 locs1 → W p l e room_1 s m #[Value.ref b] below meth c H1 locs1 213 3262 (lw_Z below #[Value.ref b] s) (F0 m 901 ls [])) : W p l e room_1 s m #[Value.ref b] below meth c H locs 213 3262 (lw_Z below #[Value.ref b] s) (F0 m 852 ls []) := by
  obtain ⟨hx, hb, hr, hml, hown, hts0, hX, hbl, hlocks, hgv⟩ := id C0
  have hown : s.vm.findClass RL = some m.cls := hown
  have hts : ∀ w ∈ wsL_law, w.before #[Value.ref b] s = true := fun w hw => hts0 w (wsL_law_in w hw)
  have hA : ∀ q : Nat, s.heap.size ≤ q → (fun q : Nat => s.heap.size ≤ q) q := fun _ h => h
  have hbA : ¬ (fun q : Nat => s.heap.size ≤ q) b := Nat.not_le.mpr hbl
  obtain ⟨r, X', σ', eX, eM, hRel'⟩ := L_clearText hRel
  refine lv_aload_n hx hb dL_law_852 rfl (lv_at hl 1 rfl) ?_
  refine cl_L (As := []) (rest := []) (L := [(w_X10 aX (0) cs en X), (w_X11 aM (0) cs σ)]) (L' := [(w_X10 aX (0) cs en X'), (w_X11 aM (0) cs σ)]) (Wc := [(w_X10 aX (0) cs en X)]) (Wc' := [(w_X10 aX (0) cs en X')]) (is := [0]) (js := [1]) ⟨hx, hb, hml, hown, hts⟩ (k_X10_clearText l dC dI cs aX en H.size X r X' eX) (cwV 0 hts gL_law_X10_clearText rfl rfl rfl cd_X10_clearText ⟨(Nat.le_of_ble_eq_true rfl), (Nat.le_of_ble_eq_true rfl)⟩) hK hP hD hS hA ⟨rfl, rfl, rfl, rfl, rfl, rfl⟩ (jn_nd (is := [0]) hD rfl rfl) 0 8 rfl rfl rfl rfl rfl hl.1 (Nat.le_of_ble_eq_true rfl) dL_law_853 ⟨(Nat.le_of_ble_eq_true rfl), (Nat.le_of_ble_eq_true rfl)⟩ (fun H1 locs1 hP' hD' hS' => ?_)
  replace hP : va_P (dC, dI) vwCl (fl [(w_X10 aX (0) cs en X'), (w_X11 aM (0) cs σ)]) H1 := hP'
  replace hD : va_D (fun q : Nat => s.heap.size ≤ q) (fl [(w_X10 aX (0) cs en X'), (w_X11 aM (0) cs σ)]) := hD'
  replace hS := hS'
  clear hP' hD' hS'
  refine lv_aload_n hx hb dL_law_856 rfl (lv_at hl 2 rfl) ?_
  refine cl_L (As := []) (rest := [.int r]) (L := [(w_X10 aX (0) cs en X'), (w_X11 aM (0) cs σ)]) (L' := [(w_X10 aX (0) cs en X'), (w_X11 aM (0) cs σ')]) (Wc := [(w_X11 aM (0) cs σ)]) (Wc' := [(w_X11 aM (0) cs σ')]) (is := [1]) (js := [0]) ⟨hx, hb, hml, hown, hts⟩ (k_X11_clearText l dC dI cs aM (0) H1.size σ r σ' eM) (cwV 0 hts gL_law_X11_clearText rfl rfl rfl cd_X11_clearText ⟨(Nat.le_of_ble_eq_true rfl), (Nat.le_of_ble_eq_true rfl)⟩) hK hP hD hS hA ⟨rfl, rfl, rfl, rfl, rfl, rfl⟩ (jn_nd (is := [1]) hD rfl rfl) 206 9 rfl rfl rfl rfl rfl hl.1 (Nat.le_of_ble_eq_true rfl) dL_law_857 ⟨(Nat.le_of_ble_eq_true rfl), (Nat.le_of_ble_eq_true rfl)⟩ (fun H2 locs2 hP' hD' hS' => ?_)
  replace hP : va_P (dC, dI) vwCl (fl [(w_X10 aX (0) cs en X'), (w_X11 aM (0) cs σ')]) H2 := hP'
  replace hD : va_D (fun q : Nat => s.heap.size ≤ q) (fl [(w_X10 aX (0) cs en X'), (w_X11 aM (0) cs σ')]) := hD'
  replace hS := hS'
  clear hP' hD' hS'
  refine lv_icmp_eq (tgt := 901) hx hb dL_law_860 (by decide) (fun _ => ?_) (fun c9 => absurd rfl c9)
  exact kk X' σ' _ _ hRel' hP hD hS
set_option maxHeartbeats 4000000 in
set_option maxRecDepth 100000 in
theorem law_fault {p : Program} {l : Launch} {e : Env} {s : State} {m : MethodId} {below : List Frame} {meth : Method} {c : Code} {b L : Nat} {xs : Nat → Int32} {dC : Nat → ClassId} {dI : Nat → Nat → Nat} {cs : Nat → ClassId} {aX aM aK aV en : Nat → Nat} {tF tS : Nat} (C0 : lw_At p s m meth c b L xs) (hL : L ≤ 1536) (hK : va_K (dC, dI) vwCl (tyL cs) s) (hE : EX aK aV en tF tS (fun q : Nat => s.heap.size ≤ q) s s.heap) {i : Nat} (hi : i + 3 ≤ L) {X : T5} {σ : T2} (hRel : Rel X σ) {H : Heap} {locs : List Loc} {ls : Array Slot} (hP : va_P (dC, dI) vwCl (fl [(w_X10 aX (0) cs en X), (w_X11 aM (0) cs σ)]) H) (hD : va_D (fun q : Nat => s.heap.size ≤ q) (fl [(w_X10 aX (0) cs en X), (w_X11 aM (0) cs σ)])) (hS : va_S (fun q : Nat => s.heap.size ≤ q) s.heap H locs) (hl : lv_has ls 4 [(0, .ref b), (1, .ref (aX 0)), (2, .ref (aM 0)), (3, .int (nI i))]) (kk : ∀ (X' : T5) (σ' : T2) (H1 : Heap) (locs1 : List Loc), Rel X' σ' → va_P (dC, dI) vwCl (fl [(w_X10 aX (0) cs en X'), (w_X11 aM (0) cs σ')]) H1 → va_D (fun q : Nat => s.heap.size ≤ q) (fl [(w_X10 aX (0) cs en X'), (w_X11 aM (0) cs σ')]) → va_S (fun q : Nat => s.heap.size ≤ q) s.heap H1 locs1 → W p l e room_1 s m #[Value.ref b] below meth c H1 locs1 213 3262 (lw_Z below #[Value.ref b] s) (F0 m 901 ls [])) : W p l e room_1 s m #[Value.ref b] below meth c H locs 213 3262 (lw_Z below #[Value.ref b] s) (F0 m 865 ls []) := by
  obtain ⟨hx, hb, hr, hml, hown, hts0, hX, hbl, hlocks, hgv⟩ := id C0
  have hown : s.vm.findClass RL = some m.cls := hown
  have hts : ∀ w ∈ wsL_law, w.before #[Value.ref b] s = true := fun w hw => hts0 w (wsL_law_in w hw)
  have hA : ∀ q : Nat, s.heap.size ≤ q → (fun q : Nat => s.heap.size ≤ q) q := fun _ h => h
  have hbA : ¬ (fun q : Nat => s.heap.size ≤ q) b := Nat.not_le.mpr hbl
  have h_1 : vp_in (nI i + nI 1) L := law_in (by omega) hL
  obtain ⟨r, X', σ', eX, eM, hRel'⟩ := L_fault hRel (xs (nI i + nI 1).toNatClampNeg)
  refine lv_aload_n hx hb dL_law_865 rfl (lv_at hl 1 rfl) ?_
  refine lv_aload_n hx hb dL_law_866 rfl (lv_at hl 0 rfl) ?_
  refine lv_iload_n hx hb dL_law_867 rfl (lv_at hl 3 rfl) ?_
  refine lv_iconst (v := nI 1) hx hb dL_law_868 ic_1 ?_
  refine lv_iadd hx hb dL_law_869 ?_
  refine va_sld hx hb hX hbl hbA hS h_1 dL_law_870 ?_
  refine cl_LE (As := [.int (xs (nI i + nI 1).toNatClampNeg)]) (rest := []) (L := [(w_X10 aX (0) cs en X), (w_X11 aM (0) cs σ)]) (L' := [(w_X10 aX (0) cs en X'), (w_X11 aM (0) cs σ)]) (Wc := [(w_X10 aX (0) cs en X)]) (Wc' := [(w_X10 aX (0) cs en X')]) (is := [0]) (js := [1]) ⟨hx, hb, hml, hown, hts⟩ (k_X10_fault l dC dI cs aX aK aV en tF tS H.size X (xs (nI i + nI 1).toNatClampNeg) r X' eX) (cwV 1 hts gL_law_X10_fault rfl rfl rfl cd_X10_fault ⟨(Nat.le_of_ble_eq_true rfl), (Nat.le_of_ble_eq_true rfl)⟩) hK hP hD hS hA hE ⟨rfl, rfl, rfl, rfl, rfl, rfl⟩ (jn_nd (is := [0]) hD rfl rfl) 0 8 rfl rfl rfl rfl rfl hl.1 (Nat.le_of_ble_eq_true rfl) dL_law_871 ⟨(Nat.le_of_ble_eq_true rfl), (Nat.le_of_ble_eq_true rfl)⟩ (fun H1 locs1 hP' hD' hS' => ?_)
  replace hP : va_P (dC, dI) vwCl (fl [(w_X10 aX (0) cs en X'), (w_X11 aM (0) cs σ)]) H1 := hP'
  replace hD : va_D (fun q : Nat => s.heap.size ≤ q) (fl [(w_X10 aX (0) cs en X'), (w_X11 aM (0) cs σ)]) := hD'
  replace hS := hS'
  clear hP' hD' hS'
  refine lv_aload_n hx hb dL_law_874 rfl (lv_at hl 2 rfl) ?_
  refine lv_aload_n hx hb dL_law_875 rfl (lv_at hl 0 rfl) ?_
  refine lv_iload_n hx hb dL_law_876 rfl (lv_at hl 3 rfl) ?_
  refine lv_iconst (v := nI 1) hx hb dL_law_877 ic_1 ?_
  refine lv_iadd hx hb dL_law_878 ?_
  refine va_sld hx hb hX hbl hbA hS h_1 dL_law_879 ?_
  refine cl_L (As := [.int (xs (nI i + nI 1).toNatClampNeg)]) (rest := [.int r]) (L := [(w_X10 aX (0) cs en X'), (w_X11 aM (0) cs σ)]) (L' := [(w_X10 aX (0) cs en X'), (w_X11 aM (0) cs σ')]) (Wc := [(w_X11 aM (0) cs σ)]) (Wc' := [(w_X11 aM (0) cs σ')]) (is := [1]) (js := [0]) ⟨hx, hb, hml, hown, hts⟩ (k_X11_fault l dC dI cs aM (0) H1.size σ (xs (nI i + nI 1).toNatClampNeg) r σ' eM) (cwV 1 hts gL_law_X11_fault rfl rfl rfl cd_X11_fault ⟨(Nat.le_of_ble_eq_true rfl), (Nat.le_of_ble_eq_true rfl)⟩) hK hP hD hS hA ⟨rfl, rfl, rfl, rfl, rfl, rfl⟩ (jn_nd (is := [1]) hD rfl rfl) 206 9 rfl rfl rfl rfl rfl hl.1 (Nat.le_of_ble_eq_true rfl) dL_law_880 ⟨(Nat.le_of_ble_eq_true rfl), (Nat.le_of_ble_eq_true rfl)⟩ (fun H2 locs2 hP' hD' hS' => ?_)
  replace hP : va_P (dC, dI) vwCl (fl [(w_X10 aX (0) cs en X'), (w_X11 aM (0) cs σ')]) H2 := hP'
  replace hD : va_D (fun q : Nat => s.heap.size ≤ q) (fl [(w_X10 aX (0) cs en X'), (w_X11 aM (0) cs σ')]) := hD'
  replace hS := hS'
  clear hP' hD' hS'
  refine lv_icmp_eq (tgt := 901) hx hb dL_law_883 (by decide) (fun _ => ?_) (fun c9 => absurd rfl c9)
  exact kk X' σ' _ _ hRel' hP hD hS
set_option maxHeartbeats 4000000 in
set_option maxRecDepth 100000 in
theorem law_play {p : Program} {l : Launch} {e : Env} {s : State} {m : MethodId} {below : List Frame} {meth : Method} {c : Code} {b L : Nat} {xs : Nat → Int32} {dC : Nat → ClassId} {dI : Nat → Nat → Nat} {cs : Nat → ClassId} {aX aM aK aV en : Nat → Nat} {tF tS : Nat} (C0 : lw_At p s m meth c b L xs) (hL : L ≤ 1536) (hK : va_K (dC, dI) vwCl (tyL cs) s) (hE : EX aK aV en tF tS (fun q : Nat => s.heap.size ≤ q) s s.heap) {i : Nat} (hi : i + 3 ≤ L) {X : T5} {σ : T2} (hRel : Rel X σ) {H : Heap} {locs : List Loc} {ls : Array Slot} (hP : va_P (dC, dI) vwCl (fl [(w_X10 aX (0) cs en X), (w_X11 aM (0) cs σ)]) H) (hD : va_D (fun q : Nat => s.heap.size ≤ q) (fl [(w_X10 aX (0) cs en X), (w_X11 aM (0) cs σ)])) (hS : va_S (fun q : Nat => s.heap.size ≤ q) s.heap H locs) (hl : lv_has ls 4 [(0, .ref b), (1, .ref (aX 0)), (2, .ref (aM 0)), (3, .int (nI i))]) (kk : ∀ (X' : T5) (σ' : T2) (H1 : Heap) (locs1 : List Loc), Rel X' σ' → va_P (dC, dI) vwCl (fl [(w_X10 aX (0) cs en X'), (w_X11 aM (0) cs σ')]) H1 → va_D (fun q : Nat => s.heap.size ≤ q) (fl [(w_X10 aX (0) cs en X'), (w_X11 aM (0) cs σ')]) → va_S (fun q : Nat => s.heap.size ≤ q) s.heap H1 locs1 → W p l e room_1 s m #[Value.ref b] below meth c H1 locs1 213 3262 (lw_Z below #[Value.ref b] s) (F0 m 901 ls [])) : W p l e room_1 s m #[Value.ref b] below meth c H locs 213 3262 (lw_Z below #[Value.ref b] s) (F0 m 888 ls []) := by
  obtain ⟨hx, hb, hr, hml, hown, hts0, hX, hbl, hlocks, hgv⟩ := id C0
  have hown : s.vm.findClass RL = some m.cls := hown
  have hts : ∀ w ∈ wsL_law, w.before #[Value.ref b] s = true := fun w hw => hts0 w (wsL_law_in w hw)
  have hA : ∀ q : Nat, s.heap.size ≤ q → (fun q : Nat => s.heap.size ≤ q) q := fun _ h => h
  have hbA : ¬ (fun q : Nat => s.heap.size ≤ q) b := Nat.not_le.mpr hbl
  obtain ⟨r, X', σ', eX, eM, hRel'⟩ := L_play hRel
  refine lv_aload_n hx hb dL_law_888 rfl (lv_at hl 1 rfl) ?_
  refine cl_LE (As := []) (rest := []) (L := [(w_X10 aX (0) cs en X), (w_X11 aM (0) cs σ)]) (L' := [(w_X10 aX (0) cs en X'), (w_X11 aM (0) cs σ)]) (Wc := [(w_X10 aX (0) cs en X)]) (Wc' := [(w_X10 aX (0) cs en X')]) (is := [0]) (js := [1]) ⟨hx, hb, hml, hown, hts⟩ (k_X10_play l dC dI cs aX aK aV en tF tS H.size X r X' eX) (cwV 0 hts gL_law_X10_play rfl rfl rfl cd_X10_play ⟨(Nat.le_of_ble_eq_true rfl), (Nat.le_of_ble_eq_true rfl)⟩) hK hP hD hS hA hE ⟨rfl, rfl, rfl, rfl, rfl, rfl⟩ (jn_nd (is := [0]) hD rfl rfl) 0 8 rfl rfl rfl rfl rfl hl.1 (Nat.le_of_ble_eq_true rfl) dL_law_889 ⟨(Nat.le_of_ble_eq_true rfl), (Nat.le_of_ble_eq_true rfl)⟩ (fun H1 locs1 hP' hD' hS' => ?_)
  replace hP : va_P (dC, dI) vwCl (fl [(w_X10 aX (0) cs en X'), (w_X11 aM (0) cs σ)]) H1 := hP'
  replace hD : va_D (fun q : Nat => s.heap.size ≤ q) (fl [(w_X10 aX (0) cs en X'), (w_X11 aM (0) cs σ)]) := hD'
  replace hS := hS'
  clear hP' hD' hS'
  refine lv_aload_n hx hb dL_law_892 rfl (lv_at hl 2 rfl) ?_
  refine cl_L (As := []) (rest := [.int r]) (L := [(w_X10 aX (0) cs en X'), (w_X11 aM (0) cs σ)]) (L' := [(w_X10 aX (0) cs en X'), (w_X11 aM (0) cs σ')]) (Wc := [(w_X11 aM (0) cs σ)]) (Wc' := [(w_X11 aM (0) cs σ')]) (is := [1]) (js := [0]) ⟨hx, hb, hml, hown, hts⟩ (k_X11_play l dC dI cs aM (0) H1.size σ r σ' eM) (cwV 0 hts gL_law_X11_play rfl rfl rfl cd_X11_play ⟨(Nat.le_of_ble_eq_true rfl), (Nat.le_of_ble_eq_true rfl)⟩) hK hP hD hS hA ⟨rfl, rfl, rfl, rfl, rfl, rfl⟩ (jn_nd (is := [1]) hD rfl rfl) 206 9 rfl rfl rfl rfl rfl hl.1 (Nat.le_of_ble_eq_true rfl) dL_law_893 ⟨(Nat.le_of_ble_eq_true rfl), (Nat.le_of_ble_eq_true rfl)⟩ (fun H2 locs2 hP' hD' hS' => ?_)
  replace hP : va_P (dC, dI) vwCl (fl [(w_X10 aX (0) cs en X'), (w_X11 aM (0) cs σ')]) H2 := hP'
  replace hD : va_D (fun q : Nat => s.heap.size ≤ q) (fl [(w_X10 aX (0) cs en X'), (w_X11 aM (0) cs σ')]) := hD'
  replace hS := hS'
  clear hP' hD' hS'
  refine lv_icmp_eq (tgt := 901) hx hb dL_law_896 (by decide) (fun _ => ?_) (fun c9 => absurd rfl c9)
  exact kk X' σ' _ _ hRel' hP hD hS
