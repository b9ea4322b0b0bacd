set_option maxHeartbeats 4000000 in
set_option maxRecDepth 100000 in
theorem law_station {p : Program} {l : Launch} {e : Env} {s : State} {m : MethodId} {below : List Frame} {meth : Method} {c : Code} {b L : Nat} {xs : Nat → Int32} {dC : Nat → ClassId} {dI : Nat → Nat → Nat} {cs : Nat → ClassId} {aX aM en : Nat → Nat} (C0 : lw_At p s m meth c b L xs) (hL : L ≤ 1536) (hK : va_K (dC, dI) vwCl (tyL cs) s) {i : Nat} (hi : i + 3 ≤ L) {X : T5} {σ : T2} (hRel : Rel X σ) {H : Heap} {locs : List Loc} {ls : Array Slot} (hP : va_P (dC, dI) vwCl (fl [(w_X10 aX (0) cs en X), (w_X11 aM (0) cs σ)]) H) (hD : va_D (fun q : Nat => s.heap.size ≤ q) (fl [(w_X10 aX (0) cs en X), (w_X11 aM (0) cs σ)])) (hS : va_S (fun q : Nat => s.heap.size ≤ q) s.heap H locs) (hl : lv_has ls 4 [(0, .ref b), (1, .ref (aX 0)), (2, .ref (aM 0)), (3, .int (nI i))]) (kk : ∀ (X' : T5) (σ' : T2) (H1 : Heap) (locs1 : List Loc), Rel X' σ' → va_P (dC, dI) vwCl (fl [(w_X10 aX (0) cs en X'), (w_X11 aM (0) cs σ')]) H1 → va_D (fun q : Nat => s.heap.size ≤ q) (fl [(w_X10 aX (0) cs en X'), (w_X11 aM (0) cs σ')]) → va_S (fun q : Nat => s.heap.size ≤ q) s.heap H1 locs1 → W p l e room_1 s m #[Value.ref b] below meth c H1 locs1 213 3262 (lw_Z below #[Value.ref b] s) (F0 m 901 ls [])) : W p l e room_1 s m #[Value.ref b] below meth c H locs 213 3262 (lw_Z below #[Value.ref b] s) (F0 m 164 ls []) := by
  obtain ⟨hx, hb, hr, hml, hown, hts0, hX, hbl, hlocks, hgv⟩ := id C0
  have hown : s.vm.findClass RL = some m.cls := hown
  have hts : ∀ w ∈ wsL_law, w.before #[Value.ref b] s = true := fun w hw => hts0 w (wsL_law_in w hw)
  have hA : ∀ q : Nat, s.heap.size ≤ q → (fun q : Nat => s.heap.size ≤ q) q := fun _ h => h
  have hbA : ¬ (fun q : Nat => s.heap.size ≤ q) b := Nat.not_le.mpr hbl
  have h_1 : vp_in (nI i + nI 1) L := law_in (by omega) hL
  have h_2 : vp_in (nI i + nI 2) L := law_in (by omega) hL
  obtain ⟨r, X', σ', eX, eM, hRel'⟩ := L_station hRel (xs (nI i + nI 1).toNatClampNeg) (xs (nI i + nI 2).toNatClampNeg)
  refine lv_aload_n hx hb dL_law_164 rfl (lv_at hl 1 rfl) ?_
  refine lv_aload_n hx hb dL_law_165 rfl (lv_at hl 0 rfl) ?_
  refine lv_iload_n hx hb dL_law_166 rfl (lv_at hl 3 rfl) ?_
  refine lv_iconst (v := nI 1) hx hb dL_law_167 ic_1 ?_
  refine lv_iadd hx hb dL_law_168 ?_
  refine va_sld hx hb hX hbl hbA hS h_1 dL_law_169 ?_
  refine lv_aload_n hx hb dL_law_170 rfl (lv_at hl 0 rfl) ?_
  refine lv_iload_n hx hb dL_law_171 rfl (lv_at hl 3 rfl) ?_
  refine lv_iconst (v := nI 2) hx hb dL_law_172 ic_2 ?_
  refine lv_iadd hx hb dL_law_173 ?_
  refine va_sld hx hb hX hbl hbA hS h_2 dL_law_174 ?_
  refine cl_L (As := [.int (xs (nI i + nI 1).toNatClampNeg), .int (xs (nI i + nI 2).toNatClampNeg)]) (rest := []) (L := [(w_X10 aX (0) cs en X), (w_X11 aM (0) cs σ)]) (L' := [(w_X10 aX (0) cs en X'), (w_X11 aM (0) cs σ)]) (Wc := [(w_X10 aX (0) cs en X)]) (Wc' := [(w_X10 aX (0) cs en X')]) (is := [0]) (js := [1]) ⟨hx, hb, hml, hown, hts⟩ (k_X10_station l dC dI cs aX en H.size X (xs (nI i + nI 1).toNatClampNeg) (xs (nI i + nI 2).toNatClampNeg) r X' eX) (cwV 2 hts gL_law_X10_station rfl rfl rfl cd_X10_station ⟨(Nat.le_of_ble_eq_true rfl), (Nat.le_of_ble_eq_true rfl)⟩) hK hP hD hS hA ⟨rfl, rfl, rfl, rfl, rfl, rfl⟩ (jn_nd (is := [0]) hD rfl rfl) 0 8 rfl rfl rfl rfl rfl hl.1 (Nat.le_of_ble_eq_true rfl) dL_law_175 ⟨(Nat.le_of_ble_eq_true rfl), (Nat.le_of_ble_eq_true rfl)⟩ (fun H1 locs1 hP' hD' hS' => ?_)
  replace hP : va_P (dC, dI) vwCl (fl [(w_X10 aX (0) cs en X'), (w_X11 aM (0) cs σ)]) H1 := hP'
  replace hD : va_D (fun q : Nat => s.heap.size ≤ q) (fl [(w_X10 aX (0) cs en X'), (w_X11 aM (0) cs σ)]) := hD'
  replace hS := hS'
  clear hP' hD' hS'
  refine lv_aload_n hx hb dL_law_178 rfl (lv_at hl 2 rfl) ?_
  refine lv_aload_n hx hb dL_law_179 rfl (lv_at hl 0 rfl) ?_
  refine lv_iload_n hx hb dL_law_180 rfl (lv_at hl 3 rfl) ?_
  refine lv_iconst (v := nI 1) hx hb dL_law_181 ic_1 ?_
  refine lv_iadd hx hb dL_law_182 ?_
  refine va_sld hx hb hX hbl hbA hS h_1 dL_law_183 ?_
  refine lv_aload_n hx hb dL_law_184 rfl (lv_at hl 0 rfl) ?_
  refine lv_iload_n hx hb dL_law_185 rfl (lv_at hl 3 rfl) ?_
  refine lv_iconst (v := nI 2) hx hb dL_law_186 ic_2 ?_
  refine lv_iadd hx hb dL_law_187 ?_
  refine va_sld hx hb hX hbl hbA hS h_2 dL_law_188 ?_
  refine cl_L (As := [.int (xs (nI i + nI 1).toNatClampNeg), .int (xs (nI i + nI 2).toNatClampNeg)]) (rest := [.int r]) (L := [(w_X10 aX (0) cs en X'), (w_X11 aM (0) cs σ)]) (L' := [(w_X10 aX (0) cs en X'), (w_X11 aM (0) cs σ')]) (Wc := [(w_X11 aM (0) cs σ)]) (Wc' := [(w_X11 aM (0) cs σ')]) (is := [1]) (js := [0]) ⟨hx, hb, hml, hown, hts⟩ (k_X11_station l dC dI cs aM (0) H1.size σ (xs (nI i + nI 1).toNatClampNeg) (xs (nI i + nI 2).toNatClampNeg) r σ' eM) (cwV 2 hts gL_law_X11_station rfl rfl rfl cd_X11_station ⟨(Nat.le_of_ble_eq_true rfl), (Nat.le_of_ble_eq_true rfl)⟩) hK hP hD hS hA ⟨rfl, rfl, rfl, rfl, rfl, rfl⟩ (jn_nd (is := [1]) hD rfl rfl) 206 9 rfl rfl rfl rfl rfl hl.1 (Nat.le_of_ble_eq_true rfl) dL_law_189 ⟨(Nat.le_of_ble_eq_true rfl), (Nat.le_of_ble_eq_true rfl)⟩ (fun H2 locs2 hP' hD' hS' => ?_)
  replace hP : va_P (dC, dI) vwCl (fl [(w_X10 aX (0) cs en X'), (w_X11 aM (0) cs σ')]) H2 := hP'
  replace hD : va_D (fun q : Nat => s.heap.size ≤ q) (fl [(w_X10 aX (0) cs en X'), (w_X11 aM (0) cs σ')]) := hD'
  replace hS := hS'
  clear hP' hD' hS'
  refine lv_icmp_eq (tgt := 901) hx hb dL_law_192 (by decide) (fun _ => ?_) (fun c9 => absurd rfl c9)
  exact kk X' σ' _ _ hRel' hP hD hS
set_option maxHeartbeats 4000000 in
set_option maxRecDepth 100000 in
theorem law_bicycle {p : Program} {l : Launch} {e : Env} {s : State} {m : MethodId} {below : List Frame} {meth : Method} {c : Code} {b L : Nat} {xs : Nat → Int32} {dC : Nat → ClassId} {dI : Nat → Nat → Nat} {cs : Nat → ClassId} {aX aM en : Nat → Nat} (C0 : lw_At p s m meth c b L xs) (hL : L ≤ 1536) (hK : va_K (dC, dI) vwCl (tyL cs) s) {i : Nat} (hi : i + 3 ≤ L) {X : T5} {σ : T2} (hRel : Rel X σ) {H : Heap} {locs : List Loc} {ls : Array Slot} (hP : va_P (dC, dI) vwCl (fl [(w_X10 aX (0) cs en X), (w_X11 aM (0) cs σ)]) H) (hD : va_D (fun q : Nat => s.heap.size ≤ q) (fl [(w_X10 aX (0) cs en X), (w_X11 aM (0) cs σ)])) (hS : va_S (fun q : Nat => s.heap.size ≤ q) s.heap H locs) (hl : lv_has ls 4 [(0, .ref b), (1, .ref (aX 0)), (2, .ref (aM 0)), (3, .int (nI i))]) (kk : ∀ (X' : T5) (σ' : T2) (H1 : Heap) (locs1 : List Loc), Rel X' σ' → va_P (dC, dI) vwCl (fl [(w_X10 aX (0) cs en X'), (w_X11 aM (0) cs σ')]) H1 → va_D (fun q : Nat => s.heap.size ≤ q) (fl [(w_X10 aX (0) cs en X'), (w_X11 aM (0) cs σ')]) → va_S (fun q : Nat => s.heap.size ≤ q) s.heap H1 locs1 → W p l e room_1 s m #[Value.ref b] below meth c H1 locs1 213 3262 (lw_Z below #[Value.ref b] s) (F0 m 901 ls [])) : W p l e room_1 s m #[Value.ref b] below meth c H locs 213 3262 (lw_Z below #[Value.ref b] s) (F0 m 197 ls []) := by
  obtain ⟨hx, hb, hr, hml, hown, hts0, hX, hbl, hlocks, hgv⟩ := id C0
  have hown : s.vm.findClass RL = some m.cls := hown
  have hts : ∀ w ∈ wsL_law, w.before #[Value.ref b] s = true := fun w hw => hts0 w (wsL_law_in w hw)
  have hA : ∀ q : Nat, s.heap.size ≤ q → (fun q : Nat => s.heap.size ≤ q) q := fun _ h => h
  have hbA : ¬ (fun q : Nat => s.heap.size ≤ q) b := Nat.not_le.mpr hbl
  have h_1 : vp_in (nI i + nI 1) L := law_in (by omega) hL
  obtain ⟨r, X', σ', eX, eM, hRel'⟩ := L_bicycle hRel (xs (nI i + nI 1).toNatClampNeg)
  refine lv_aload_n hx hb dL_law_197 rfl (lv_at hl 1 rfl) ?_
  refine lv_aload_n hx hb dL_law_198 rfl (lv_at hl 0 rfl) ?_
  refine lv_iload_n hx hb dL_law_199 rfl (lv_at hl 3 rfl) ?_
  refine lv_iconst (v := nI 1) hx hb dL_law_200 ic_1 ?_
  refine lv_iadd hx hb dL_law_201 ?_
  refine va_sld hx hb hX hbl hbA hS h_1 dL_law_202 ?_
  refine cl_L (As := [.int (xs (nI i + nI 1).toNatClampNeg)]) (rest := []) (L := [(w_X10 aX (0) cs en X), (w_X11 aM (0) cs σ)]) (L' := [(w_X10 aX (0) cs en X'), (w_X11 aM (0) cs σ)]) (Wc := [(w_X10 aX (0) cs en X)]) (Wc' := [(w_X10 aX (0) cs en X')]) (is := [0]) (js := [1]) ⟨hx, hb, hml, hown, hts⟩ (k_X10_bicycle l dC dI cs aX en H.size X (xs (nI i + nI 1).toNatClampNeg) r X' eX) (cwV 1 hts gL_law_X10_bicycle rfl rfl rfl cd_X10_bicycle ⟨(Nat.le_of_ble_eq_true rfl), (Nat.le_of_ble_eq_true rfl)⟩) hK hP hD hS hA ⟨rfl, rfl, rfl, rfl, rfl, rfl⟩ (jn_nd (is := [0]) hD rfl rfl) 0 8 rfl rfl rfl rfl rfl hl.1 (Nat.le_of_ble_eq_true rfl) dL_law_203 ⟨(Nat.le_of_ble_eq_true rfl), (Nat.le_of_ble_eq_true rfl)⟩ (fun H1 locs1 hP' hD' hS' => ?_)
  replace hP : va_P (dC, dI) vwCl (fl [(w_X10 aX (0) cs en X'), (w_X11 aM (0) cs σ)]) H1 := hP'
  replace hD : va_D (fun q : Nat => s.heap.size ≤ q) (fl [(w_X10 aX (0) cs en X'), (w_X11 aM (0) cs σ)]) := hD'
  replace hS := hS'
  clear hP' hD' hS'
  refine lv_aload_n hx hb dL_law_206 rfl (lv_at hl 2 rfl) ?_
  refine lv_aload_n hx hb dL_law_207 rfl (lv_at hl 0 rfl) ?_
  refine lv_iload_n hx hb dL_law_208 rfl (lv_at hl 3 rfl) ?_
  refine lv_iconst (v := nI 1) hx hb dL_law_209 ic_1 ?_
  refine lv_iadd hx hb dL_law_210 ?_
  refine va_sld hx hb hX hbl hbA hS h_1 dL_law_211 ?_
  refine cl_L (As := [.int (xs (nI i + nI 1).toNatClampNeg)]) (rest := [.int r]) (L := [(w_X10 aX (0) cs en X'), (w_X11 aM (0) cs σ)]) (L' := [(w_X10 aX (0) cs en X'), (w_X11 aM (0) cs σ')]) (Wc := [(w_X11 aM (0) cs σ)]) (Wc' := [(w_X11 aM (0) cs σ')]) (is := [1]) (js := [0]) ⟨hx, hb, hml, hown, hts⟩ (k_X11_bicycle l dC dI cs aM (0) H1.size σ (xs (nI i + nI 1).toNatClampNeg) r σ' eM) (cwV 1 hts gL_law_X11_bicycle rfl rfl rfl cd_X11_bicycle ⟨(Nat.le_of_ble_eq_true rfl), (Nat.le_of_ble_eq_true rfl)⟩) hK hP hD hS hA ⟨rfl, rfl, rfl, rfl, rfl, rfl⟩ (jn_nd (is := [1]) hD rfl rfl) 206 9 rfl rfl rfl rfl rfl hl.1 (Nat.le_of_ble_eq_true rfl) dL_law_212 ⟨(Nat.le_of_ble_eq_true rfl), (Nat.le_of_ble_eq_true rfl)⟩ (fun H2 locs2 hP' hD' hS' => ?_)
  replace hP : va_P (dC, dI) vwCl (fl [(w_X10 aX (0) cs en X'), (w_X11 aM (0) cs σ')]) H2 := hP'
  replace hD : va_D (fun q : Nat => s.heap.size ≤ q) (fl [(w_X10 aX (0) cs en X'), (w_X11 aM (0) cs σ')]) := hD'
  replace hS := hS'
  clear hP' hD' hS'
  refine lv_icmp_eq (tgt := 901) hx hb dL_law_215 (by decide) (fun _ => ?_) (fun c9 => absurd rfl c9)
  exact kk X' σ' _ _ hRel' hP hD hS
set_option maxHeartbeats 4000000 in
set_option maxRecDepth 100000 in
theorem law_rider {p : Program} {l : Launch} {e : Env} {s : State} {m : MethodId} {below : List Frame} {meth : Method} {c : Code} {b L : Nat} {xs : Nat → Int32} {dC : Nat → ClassId} {dI : Nat → Nat → Nat} {cs : Nat → ClassId} {aX aM en : Nat → Nat} (C0 : lw_At p s m meth c b L xs) (hL : L ≤ 1536) (hK : va_K (dC, dI) vwCl (tyL cs) s) {i : Nat} (hi : i + 3 ≤ L) {X : T5} {σ : T2} (hRel : Rel X σ) {H : Heap} {locs : List Loc} {ls : Array Slot} (hP : va_P (dC, dI) vwCl (fl [(w_X10 aX (0) cs en X), (w_X11 aM (0) cs σ)]) H) (hD : va_D (fun q : Nat => s.heap.size ≤ q) (fl [(w_X10 aX (0) cs en X), (w_X11 aM (0) cs σ)])) (hS : va_S (fun q : Nat => s.heap.size ≤ q) s.heap H locs) (hl : lv_has ls 4 [(0, .ref b), (1, .ref (aX 0)), (2, .ref (aM 0)), (3, .int (nI i))]) (kk : ∀ (X' : T5) (σ' : T2) (H1 : Heap) (locs1 : List Loc), Rel X' σ' → va_P (dC, dI) vwCl (fl [(w_X10 aX (0) cs en X'), (w_X11 aM (0) cs σ')]) H1 → va_D (fun q : Nat => s.heap.size ≤ q) (fl [(w_X10 aX (0) cs en X'), (w_X11 aM (0) cs σ')]) → va_S (fun q : Nat => s.heap.size ≤ q) s.heap H1 locs1 → W p l e room_1 s m #[Value.ref b] below meth c H1 locs1 213 3262 (lw_Z below #[Value.ref b] s) (F0 m 901 ls [])) : W p l e room_1 s m #[Value.ref b] below meth c H locs 213 3262 (lw_Z below #[Value.ref b] s) (F0 m 220 ls []) := by
  obtain ⟨hx, hb, hr, hml, hown, hts0, hX, hbl, hlocks, hgv⟩ := id C0
  have hown : s.vm.findClass RL = some m.cls := hown
  have hts : ∀ w ∈ wsL_law, w.before #[Value.ref b] s = true := fun w hw => hts0 w (wsL_law_in w hw)
  have hA : ∀ q : Nat, s.heap.size ≤ q → (fun q : Nat => s.heap.size ≤ q) q := fun _ h => h
  have hbA : ¬ (fun q : Nat => s.heap.size ≤ q) b := Nat.not_le.mpr hbl
  obtain ⟨r, X', σ', eX, eM, hRel'⟩ := L_rider hRel
  refine lv_aload_n hx hb dL_law_220 rfl (lv_at hl 1 rfl) ?_
  refine cl_L (As := []) (rest := []) (L := [(w_X10 aX (0) cs en X), (w_X11 aM (0) cs σ)]) (L' := [(w_X10 aX (0) cs en X'), (w_X11 aM (0) cs σ)]) (Wc := [(w_X10 aX (0) cs en X)]) (Wc' := [(w_X10 aX (0) cs en X')]) (is := [0]) (js := [1]) ⟨hx, hb, hml, hown, hts⟩ (k_X10_rider l dC dI cs aX en H.size X r X' eX) (cwV 0 hts gL_law_X10_rider rfl rfl rfl cd_X10_rider ⟨(Nat.le_of_ble_eq_true rfl), (Nat.le_of_ble_eq_true rfl)⟩) hK hP hD hS hA ⟨rfl, rfl, rfl, rfl, rfl, rfl⟩ (jn_nd (is := [0]) hD rfl rfl) 0 8 rfl rfl rfl rfl rfl hl.1 (Nat.le_of_ble_eq_true rfl) dL_law_221 ⟨(Nat.le_of_ble_eq_true rfl), (Nat.le_of_ble_eq_true rfl)⟩ (fun H1 locs1 hP' hD' hS' => ?_)
  replace hP : va_P (dC, dI) vwCl (fl [(w_X10 aX (0) cs en X'), (w_X11 aM (0) cs σ)]) H1 := hP'
  replace hD : va_D (fun q : Nat => s.heap.size ≤ q) (fl [(w_X10 aX (0) cs en X'), (w_X11 aM (0) cs σ)]) := hD'
  replace hS := hS'
  clear hP' hD' hS'
  refine lv_aload_n hx hb dL_law_224 rfl (lv_at hl 2 rfl) ?_
  refine cl_L (As := []) (rest := [.int r]) (L := [(w_X10 aX (0) cs en X'), (w_X11 aM (0) cs σ)]) (L' := [(w_X10 aX (0) cs en X'), (w_X11 aM (0) cs σ')]) (Wc := [(w_X11 aM (0) cs σ)]) (Wc' := [(w_X11 aM (0) cs σ')]) (is := [1]) (js := [0]) ⟨hx, hb, hml, hown, hts⟩ (k_X11_rider l dC dI cs aM (0) H1.size σ r σ' eM) (cwV 0 hts gL_law_X11_rider rfl rfl rfl cd_X11_rider ⟨(Nat.le_of_ble_eq_true rfl), (Nat.le_of_ble_eq_true rfl)⟩) hK hP hD hS hA ⟨rfl, rfl, rfl, rfl, rfl, rfl⟩ (jn_nd (is := [1]) hD rfl rfl) 206 9 rfl rfl rfl rfl rfl hl.1 (Nat.le_of_ble_eq_true rfl) dL_law_225 ⟨(Nat.le_of_ble_eq_true rfl), (Nat.le_of_ble_eq_true rfl)⟩ (fun H2 locs2 hP' hD' hS' => ?_)
  replace hP : va_P (dC, dI) vwCl (fl [(w_X10 aX (0) cs en X'), (w_X11 aM (0) cs σ')]) H2 := hP'
  replace hD : va_D (fun q : Nat => s.heap.size ≤ q) (fl [(w_X10 aX (0) cs en X'), (w_X11 aM (0) cs σ')]) := hD'
  replace hS := hS'
  clear hP' hD' hS'
  refine lv_icmp_eq (tgt := 901) hx hb dL_law_228 (by decide) (fun _ => ?_) (fun c9 => absurd rfl c9)
  exact kk X' σ' _ _ hRel' hP hD hS
set_option maxHeartbeats 4000000 in
set_option maxRecDepth 100000 in
theorem law_van {p : Program} {l : Launch} {e : Env} {s : State} {m : MethodId} {below : List Frame} {meth : Method} {c : Code} {b L : Nat} {xs : Nat → Int32} {dC : Nat → ClassId} {dI : Nat → Nat → Nat} {cs : Nat → ClassId} {aX aM en : Nat → Nat} (C0 : lw_At p s m meth c b L xs) (hL : L ≤ 1536) (hK : va_K (dC, dI) vwCl (tyL cs) s) {i : Nat} (hi : i + 3 ≤ L) {X : T5} {σ : T2} (hRel : Rel X σ) {H : Heap} {locs : List Loc} {ls : Array Slot} (hP : va_P (dC, dI) vwCl (fl [(w_X10 aX (0) cs en X), (w_X11 aM (0) cs σ)]) H) (hD : va_D (fun q : Nat => s.heap.size ≤ q) (fl [(w_X10 aX (0) cs en X), (w_X11 aM (0) cs σ)])) (hS : va_S (fun q : Nat => s.heap.size ≤ q) s.heap H locs) (hl : lv_has ls 4 [(0, .ref b), (1, .ref (aX 0)), (2, .ref (aM 0)), (3, .int (nI i))]) (kk : ∀ (X' : T5) (σ' : T2) (H1 : Heap) (locs1 : List Loc), Rel X' σ' → va_P (dC, dI) vwCl (fl [(w_X10 aX (0) cs en X'), (w_X11 aM (0) cs σ')]) H1 → va_D (fun q : Nat => s.heap.size ≤ q) (fl [(w_X10 aX (0) cs en X'), (w_X11 aM (0) cs σ')]) → va_S (fun q : Nat => s.heap.size ≤ q) s.heap H1 locs1 → W p l e room_1 s m #[Value.ref b] below meth c H1 locs1 213 3262 (lw_Z below #[Value.ref b] s) (F0 m 901 ls [])) : W p l e room_1 s m #[Value.ref b] below meth c H locs 213 3262 (lw_Z below #[Value.ref b] s) (F0 m 233 ls []) := by
  obtain ⟨hx, hb, hr, hml, hown, hts0, hX, hbl, hlocks, hgv⟩ := id C0
  have hown : s.vm.findClass RL = some m.cls := hown
  have hts : ∀ w ∈ wsL_law, w.before #[Value.ref b] s = true := fun w hw => hts0 w (wsL_law_in w hw)
  have hA : ∀ q : Nat, s.heap.size ≤ q → (fun q : Nat => s.heap.size ≤ q) q := fun _ h => h
  have hbA : ¬ (fun q : Nat => s.heap.size ≤ q) b := Nat.not_le.mpr hbl
  have h_1 : vp_in (nI i + nI 1) L := law_in (by omega) hL
  have h_2 : vp_in (nI i + nI 2) L := law_in (by omega) hL
  obtain ⟨r, X', σ', eX, eM, hRel'⟩ := L_van hRel (xs (nI i + nI 1).toNatClampNeg) (xs (nI i + nI 2).toNatClampNeg)
  refine lv_aload_n hx hb dL_law_233 rfl (lv_at hl 1 rfl) ?_
  refine lv_aload_n hx hb dL_law_234 rfl (lv_at hl 0 rfl) ?_
  refine lv_iload_n hx hb dL_law_235 rfl (lv_at hl 3 rfl) ?_
  refine lv_iconst (v := nI 1) hx hb dL_law_236 ic_1 ?_
  refine lv_iadd hx hb dL_law_237 ?_
  refine va_sld hx hb hX hbl hbA hS h_1 dL_law_238 ?_
  refine lv_aload_n hx hb dL_law_239 rfl (lv_at hl 0 rfl) ?_
  refine lv_iload_n hx hb dL_law_240 rfl (lv_at hl 3 rfl) ?_
  refine lv_iconst (v := nI 2) hx hb dL_law_241 ic_2 ?_
  refine lv_iadd hx hb dL_law_242 ?_
  refine va_sld hx hb hX hbl hbA hS h_2 dL_law_243 ?_
  refine cl_L (As := [.int (xs (nI i + nI 1).toNatClampNeg), .int (xs (nI i + nI 2).toNatClampNeg)]) (rest := []) (L := [(w_X10 aX (0) cs en X), (w_X11 aM (0) cs σ)]) (L' := [(w_X10 aX (0) cs en X'), (w_X11 aM (0) cs σ)]) (Wc := [(w_X10 aX (0) cs en X)]) (Wc' := [(w_X10 aX (0) cs en X')]) (is := [0]) (js := [1]) ⟨hx, hb, hml, hown, hts⟩ (k_X10_van l dC dI cs aX en H.size X (xs (nI i + nI 1).toNatClampNeg) (xs (nI i + nI 2).toNatClampNeg) r X' eX) (cwV 2 hts gL_law_X10_van rfl rfl rfl cd_X10_van ⟨(Nat.le_of_ble_eq_true rfl), (Nat.le_of_ble_eq_true rfl)⟩) hK hP hD hS hA ⟨rfl, rfl, rfl, rfl, rfl, rfl⟩ (jn_nd (is := [0]) hD rfl rfl) 0 8 rfl rfl rfl rfl rfl hl.1 (Nat.le_of_ble_eq_true rfl) dL_law_244 ⟨(Nat.le_of_ble_eq_true rfl), (Nat.le_of_ble_eq_true rfl)⟩ (fun H1 locs1 hP' hD' hS' => ?_)
  replace hP : va_P (dC, dI) vwCl (fl [(w_X10 aX (0) cs en X'), (w_X11 aM (0) cs σ)]) H1 := hP'
  replace hD : va_D (fun q : Nat => s.heap.size ≤ q) (fl [(w_X10 aX (0) cs en X'), (w_X11 aM (0) cs σ)]) := hD'
  replace hS := hS'
  clear hP' hD' hS'
  refine lv_aload_n hx hb dL_law_247 rfl (lv_at hl 2 rfl) ?_
  refine lv_aload_n hx hb dL_law_248 rfl (lv_at hl 0 rfl) ?_
  refine lv_iload_n hx hb dL_law_249 rfl (lv_at hl 3 rfl) ?_
  refine lv_iconst (v := nI 1) hx hb dL_law_250 ic_1 ?_
  refine lv_iadd hx hb dL_law_251 ?_
  refine va_sld hx hb hX hbl hbA hS h_1 dL_law_252 ?_
  refine lv_aload_n hx hb dL_law_253 rfl (lv_at hl 0 rfl) ?_
  refine lv_iload_n hx hb dL_law_254 rfl (lv_at hl 3 rfl) ?_
  refine lv_iconst (v := nI 2) hx hb dL_law_255 ic_2 ?_
  refine lv_iadd hx hb dL_law_256 ?_
  refine va_sld hx hb hX hbl hbA hS h_2 dL_law_257 ?_
  refine cl_L (As := [.int (xs (nI i + nI 1).toNatClampNeg), .int (xs (nI i + nI 2).toNatClampNeg)]) (rest := [.int r]) (L := [(w_X10 aX (0) cs en X'), (w_X11 aM (0) cs σ)]) (L' := [(w_X10 aX (0) cs en X'), (w_X11 aM (0) cs σ')]) (Wc := [(w_X11 aM (0) cs σ)]) (Wc' := [(w_X11 aM (0) cs σ')]) (is := [1]) (js := [0]) ⟨hx, hb, hml, hown, hts⟩ (k_X11_van l dC dI cs aM (0) H1.size σ (xs (nI i + nI 1).toNatClampNeg) (xs (nI i + nI 2).toNatClampNeg) r σ' eM) (cwV 2 hts gL_law_X11_van rfl rfl rfl cd_X11_van ⟨(Nat.le_of_ble_eq_true rfl), (Nat.le_of_ble_eq_true rfl)⟩) hK hP hD hS hA ⟨rfl, rfl, rfl, rfl, rfl, rfl⟩ (jn_nd (is := [1]) hD rfl rfl) 206 9 rfl rfl rfl rfl rfl hl.1 (Nat.le_of_ble_eq_true rfl) dL_law_258 ⟨(Nat.le_of_ble_eq_true rfl), (Nat.le_of_ble_eq_true rfl)⟩ (fun H2 locs2 hP' hD' hS' => ?_)
  replace hP : va_P (dC, dI) vwCl (fl [(w_X10 aX (0) cs en X'), (w_X11 aM (0) cs σ')]) H2 := hP'
  replace hD : va_D (fun q : Nat => s.heap.size ≤ q) (fl [(w_X10 aX (0) cs en X'), (w_X11 aM (0) cs σ')]) := hD'
  replace hS := hS'
  clear hP' hD' hS'
  refine lv_icmp_eq (tgt := 901) hx hb dL_law_261 (by decide) (fun _ => ?_) (fun c9 => absurd rfl c9)
  exact kk X' σ' _ _ hRel' hP hD hS
set_option maxHeartbeats 4000000 in
set_option maxRecDepth 100000 in
theorem law_pass {p : Program} {l : Launch} {e : Env} {s : State} {m : MethodId} {below : List Frame} {meth : Method} {c : Code} {b L : Nat} {xs : Nat → Int32} {dC : Nat → ClassId} {dI : Nat → Nat → Nat} {cs : Nat → ClassId} {aX aM en : Nat → Nat} (C0 : lw_At p s m meth c b L xs) (hL : L ≤ 1536) (hK : va_K (dC, dI) vwCl (tyL cs) s) {i : Nat} (hi : i + 3 ≤ L) {X : T5} {σ : T2} (hRel : Rel X σ) {H : Heap} {locs : List Loc} {ls : Array Slot} (hP : va_P (dC, dI) vwCl (fl [(w_X10 aX (0) cs en X), (w_X11 aM (0) cs σ)]) H) (hD : va_D (fun q : Nat => s.heap.size ≤ q) (fl [(w_X10 aX (0) cs en X), (w_X11 aM (0) cs σ)])) (hS : va_S (fun q : Nat => s.heap.size ≤ q) s.heap H locs) (hl : lv_has ls 4 [(0, .ref b), (1, .ref (aX 0)), (2, .ref (aM 0)), (3, .int (nI i))]) (kk : ∀ (X' : T5) (σ' : T2) (H1 : Heap) (locs1 : List Loc), Rel X' σ' → va_P (dC, dI) vwCl (fl [(w_X10 aX (0) cs en X'), (w_X11 aM (0) cs σ')]) H1 → va_D (fun q : Nat => s.heap.size ≤ q) (fl [(w_X10 aX (0) cs en X'), (w_X11 aM (0) cs σ')]) → va_S (fun q : Nat => s.heap.size ≤ q) s.heap H1 locs1 → W p l e room_1 s m #[Value.ref b] below meth c H1 locs1 213 3262 (lw_Z below #[Value.ref b] s) (F0 m 901 ls [])) : W p l e room_1 s m #[Value.ref b] below meth c H locs 213 3262 (lw_Z below #[Value.ref b] s) (F0 m 266 ls []) := by
  obtain ⟨hx, hb, hr, hml, hown, hts0, hX, hbl, hlocks, hgv⟩ := id C0
  have hown : s.vm.findClass RL = some m.cls := hown
  have hts : ∀ w ∈ wsL_law, w.before #[Value.ref b] s = true := fun w hw => hts0 w (wsL_law_in w hw)
  have hA : ∀ q : Nat, s.heap.size ≤ q → (fun q : Nat => s.heap.size ≤ q) q := fun _ h => h
  have hbA : ¬ (fun q : Nat => s.heap.size ≤ q) b := Nat.not_le.mpr hbl
  have h_1 : vp_in (nI i + nI 1) L := law_in (by omega) hL
  obtain ⟨r, X', σ', eX, eM, hRel'⟩ := L_pass hRel (xs (nI i + nI 1).toNatClampNeg)
  refine lv_aload_n hx hb dL_law_266 rfl (lv_at hl 1 rfl) ?_
  refine lv_aload_n hx hb dL_law_267 rfl (lv_at hl 0 rfl) ?_
  refine lv_iload_n hx hb dL_law_268 rfl (lv_at hl 3 rfl) ?_
  refine lv_iconst (v := nI 1) hx hb dL_law_269 ic_1 ?_
  refine lv_iadd hx hb dL_law_270 ?_
  refine va_sld hx hb hX hbl hbA hS h_1 dL_law_271 ?_
  refine cl_L (As := [.int (xs (nI i + nI 1).toNatClampNeg)]) (rest := []) (L := [(w_X10 aX (0) cs en X), (w_X11 aM (0) cs σ)]) (L' := [(w_X10 aX (0) cs en X'), (w_X11 aM (0) cs σ)]) (Wc := [(w_X10 aX (0) cs en X)]) (Wc' := [(w_X10 aX (0) cs en X')]) (is := [0]) (js := [1]) ⟨hx, hb, hml, hown, hts⟩ (k_X10_pass l dC dI cs aX en H.size X (xs (nI i + nI 1).toNatClampNeg) r X' eX) (cwV 1 hts gL_law_X10_pass rfl rfl rfl cd_X10_pass ⟨(Nat.le_of_ble_eq_true rfl), (Nat.le_of_ble_eq_true rfl)⟩) hK hP hD hS hA ⟨rfl, rfl, rfl, rfl, rfl, rfl⟩ (jn_nd (is := [0]) hD rfl rfl) 0 8 rfl rfl rfl rfl rfl hl.1 (Nat.le_of_ble_eq_true rfl) dL_law_272 ⟨(Nat.le_of_ble_eq_true rfl), (Nat.le_of_ble_eq_true rfl)⟩ (fun H1 locs1 hP' hD' hS' => ?_)
  replace hP : va_P (dC, dI) vwCl (fl [(w_X10 aX (0) cs en X'), (w_X11 aM (0) cs σ)]) H1 := hP'
  replace hD : va_D (fun q : Nat => s.heap.size ≤ q) (fl [(w_X10 aX (0) cs en X'), (w_X11 aM (0) cs σ)]) := hD'
  replace hS := hS'
  clear hP' hD' hS'
  refine lv_aload_n hx hb dL_law_275 rfl (lv_at hl 2 rfl) ?_
  refine lv_aload_n hx hb dL_law_276 rfl (lv_at hl 0 rfl) ?_
  refine lv_iload_n hx hb dL_law_277 rfl (lv_at hl 3 rfl) ?_
  refine lv_iconst (v := nI 1) hx hb dL_law_278 ic_1 ?_
  refine lv_iadd hx hb dL_law_279 ?_
  refine va_sld hx hb hX hbl hbA hS h_1 dL_law_280 ?_
  refine cl_L (As := [.int (xs (nI i + nI 1).toNatClampNeg)]) (rest := [.int r]) (L := [(w_X10 aX (0) cs en X'), (w_X11 aM (0) cs σ)]) (L' := [(w_X10 aX (0) cs en X'), (w_X11 aM (0) cs σ')]) (Wc := [(w_X11 aM (0) cs σ)]) (Wc' := [(w_X11 aM (0) cs σ')]) (is := [1]) (js := [0]) ⟨hx, hb, hml, hown, hts⟩ (k_X11_pass l dC dI cs aM (0) H1.size σ (xs (nI i + nI 1).toNatClampNeg) r σ' eM) (cwV 1 hts gL_law_X11_pass rfl rfl rfl cd_X11_pass ⟨(Nat.le_of_ble_eq_true rfl), (Nat.le_of_ble_eq_true rfl)⟩) hK hP hD hS hA ⟨rfl, rfl, rfl, rfl, rfl, rfl⟩ (jn_nd (is := [1]) hD rfl rfl) 206 9 rfl rfl rfl rfl rfl hl.1 (Nat.le_of_ble_eq_true rfl) dL_law_281 ⟨(Nat.le_of_ble_eq_true rfl), (Nat.le_of_ble_eq_true rfl)⟩ (fun H2 locs2 hP' hD' hS' => ?_)
  replace hP : va_P (dC, dI) vwCl (fl [(w_X10 aX (0) cs en X'), (w_X11 aM (0) cs σ')]) H2 := hP'
  replace hD : va_D (fun q : Nat => s.heap.size ≤ q) (fl [(w_X10 aX (0) cs en X'), (w_X11 aM (0) cs σ')]) := hD'
  replace hS := hS'
  clear hP' hD' hS'
  refine lv_icmp_eq (tgt := 901) hx hb dL_law_284 (by decide) (fun _ => ?_) (fun c9 => absurd rfl c9)
  exact kk X' σ' _ _ hRel' hP hD hS
set_option maxHeartbeats 4000000 in
set_option maxRecDepth 100000 in
theorem law_rent {p : Program} {l : Launch} {e : Env} {s : State} {m : MethodId} {below : List Frame} {meth : Method} {c : Code} {b L : Nat} {xs : Nat → Int32} {dC : Nat → ClassId} {dI : Nat → Nat → Nat} {cs : Nat → ClassId} {aX aM en : Nat → Nat} (C0 : lw_At p s m meth c b L xs) (hL : L ≤ 1536) (hK : va_K (dC, dI) vwCl (tyL cs) s) {i : Nat} (hi : i + 3 ≤ L) {X : T5} {σ : T2} (hRel : Rel X σ) {H : Heap} {locs : List Loc} {ls : Array Slot} (hP : va_P (dC, dI) vwCl (fl [(w_X10 aX (0) cs en X), (w_X11 aM (0) cs σ)]) H) (hD : va_D (fun q : Nat => s.heap.size ≤ q) (fl [(w_X10 aX (0) cs en X), (w_X11 aM (0) cs σ)])) (hS : va_S (fun q : Nat => s.heap.size ≤ q) s.heap H locs) (hl : lv_has ls 4 [(0, .ref b), (1, .ref (aX 0)), (2, .ref (aM 0)), (3, .int (nI i))]) (kk : ∀ (X' : T5) (σ' : T2) (H1 : Heap) (locs1 : List Loc), Rel X' σ' → va_P (dC, dI) vwCl (fl [(w_X10 aX (0) cs en X'), (w_X11 aM (0) cs σ')]) H1 → va_D (fun q : Nat => s.heap.size ≤ q) (fl [(w_X10 aX (0) cs en X'), (w_X11 aM (0) cs σ')]) → va_S (fun q : Nat => s.heap.size ≤ q) s.heap H1 locs1 → W p l e room_1 s m #[Value.ref b] below meth c H1 locs1 213 3262 (lw_Z below #[Value.ref b] s) (F0 m 901 ls [])) : W p l e room_1 s m #[Value.ref b] below meth c H locs 213 3262 (lw_Z below #[Value.ref b] s) (F0 m 289 ls []) := by
  obtain ⟨hx, hb, hr, hml, hown, hts0, hX, hbl, hlocks, hgv⟩ := id C0
  have hown : s.vm.findClass RL = some m.cls := hown
  have hts : ∀ w ∈ wsL_law, w.before #[Value.ref b] s = true := fun w hw => hts0 w (wsL_law_in w hw)
  have hA : ∀ q : Nat, s.heap.size ≤ q → (fun q : Nat => s.heap.size ≤ q) q := fun _ h => h
  have hbA : ¬ (fun q : Nat => s.heap.size ≤ q) b := Nat.not_le.mpr hbl
  have h_1 : vp_in (nI i + nI 1) L := law_in (by omega) hL
  have h_2 : vp_in (nI i + nI 2) L := law_in (by omega) hL
  obtain ⟨r, X', σ', eX, eM, hRel'⟩ := L_rent hRel (xs (nI i + nI 1).toNatClampNeg) (xs (nI i + nI 2).toNatClampNeg)
  refine lv_aload_n hx hb dL_law_289 rfl (lv_at hl 1 rfl) ?_
  refine lv_aload_n hx hb dL_law_290 rfl (lv_at hl 0 rfl) ?_
  refine lv_iload_n hx hb dL_law_291 rfl (lv_at hl 3 rfl) ?_
  refine lv_iconst (v := nI 1) hx hb dL_law_292 ic_1 ?_
  refine lv_iadd hx hb dL_law_293 ?_
  refine va_sld hx hb hX hbl hbA hS h_1 dL_law_294 ?_
  refine lv_aload_n hx hb dL_law_295 rfl (lv_at hl 0 rfl) ?_
  refine lv_iload_n hx hb dL_law_296 rfl (lv_at hl 3 rfl) ?_
  refine lv_iconst (v := nI 2) hx hb dL_law_297 ic_2 ?_
  refine lv_iadd hx hb dL_law_298 ?_
  refine va_sld hx hb hX hbl hbA hS h_2 dL_law_299 ?_
  refine cl_L (As := [.int (xs (nI i + nI 1).toNatClampNeg), .int (xs (nI i + nI 2).toNatClampNeg)]) (rest := []) (L := [(w_X10 aX (0) cs en X), (w_X11 aM (0) cs σ)]) (L' := [(w_X10 aX (0) cs en X'), (w_X11 aM (0) cs σ)]) (Wc := [(w_X10 aX (0) cs en X)]) (Wc' := [(w_X10 aX (0) cs en X')]) (is := [0]) (js := [1]) ⟨hx, hb, hml, hown, hts⟩ (k_X10_rent l dC dI cs aX en H.size X (xs (nI i + nI 1).toNatClampNeg) (xs (nI i + nI 2).toNatClampNeg) r X' eX) (cwV 2 hts gL_law_X10_rent rfl rfl rfl cd_X10_rent ⟨(Nat.le_of_ble_eq_true rfl), (Nat.le_of_ble_eq_true rfl)⟩) hK hP hD hS hA ⟨rfl, rfl, rfl, rfl, rfl, rfl⟩ (jn_nd (is := [0]) hD rfl rfl) 0 8 rfl rfl rfl rfl rfl hl.1 (Nat.le_of_ble_eq_true rfl) dL_law_300 ⟨(Nat.le_of_ble_eq_true rfl), (Nat.le_of_ble_eq_true rfl)⟩ (fun H1 locs1 hP' hD' hS' => ?_)
  replace hP : va_P (dC, dI) vwCl (fl [(w_X10 aX (0) cs en X'), (w_X11 aM (0) cs σ)]) H1 := hP'
  replace hD : va_D (fun q : Nat => s.heap.size ≤ q) (fl [(w_X10 aX (0) cs en X'), (w_X11 aM (0) cs σ)]) := hD'
  replace hS := hS'
  clear hP' hD' hS'
  refine lv_aload_n hx hb dL_law_303 rfl (lv_at hl 2 rfl) ?_
  refine lv_aload_n hx hb dL_law_304 rfl (lv_at hl 0 rfl) ?_
  refine lv_iload_n hx hb dL_law_305 rfl (lv_at hl 3 rfl) ?_
  refine lv_iconst (v := nI 1) hx hb dL_law_306 ic_1 ?_
  refine lv_iadd hx hb dL_law_307 ?_
  refine va_sld hx hb hX hbl hbA hS h_1 dL_law_308 ?_
  refine lv_aload_n hx hb dL_law_309 rfl (lv_at hl 0 rfl) ?_
  refine lv_iload_n hx hb dL_law_310 rfl (lv_at hl 3 rfl) ?_
  refine lv_iconst (v := nI 2) hx hb dL_law_311 ic_2 ?_
  refine lv_iadd hx hb dL_law_312 ?_
  refine va_sld hx hb hX hbl hbA hS h_2 dL_law_313 ?_
  refine cl_L (As := [.int (xs (nI i + nI 1).toNatClampNeg), .int (xs (nI i + nI 2).toNatClampNeg)]) (rest := [.int r]) (L := [(w_X10 aX (0) cs en X'), (w_X11 aM (0) cs σ)]) (L' := [(w_X10 aX (0) cs en X'), (w_X11 aM (0) cs σ')]) (Wc := [(w_X11 aM (0) cs σ)]) (Wc' := [(w_X11 aM (0) cs σ')]) (is := [1]) (js := [0]) ⟨hx, hb, hml, hown, hts⟩ (k_X11_rent l dC dI cs aM (0) H1.size σ (xs (nI i + nI 1).toNatClampNeg) (xs (nI i + nI 2).toNatClampNeg) r σ' eM) (cwV 2 hts gL_law_X11_rent rfl rfl rfl cd_X11_rent ⟨(Nat.le_of_ble_eq_true rfl), (Nat.le_of_ble_eq_true rfl)⟩) hK hP hD hS hA ⟨rfl, rfl, rfl, rfl, rfl, rfl⟩ (jn_nd (is := [1]) hD rfl rfl) 206 9 rfl rfl rfl rfl rfl hl.1 (Nat.le_of_ble_eq_true rfl) dL_law_314 ⟨(Nat.le_of_ble_eq_true rfl), (Nat.le_of_ble_eq_true rfl)⟩ (fun H2 locs2 hP' hD' hS' => ?_)
  replace hP : va_P (dC, dI) vwCl (fl [(w_X10 aX (0) cs en X'), (w_X11 aM (0) cs σ')]) H2 := hP'
  replace hD : va_D (fun q : Nat => s.heap.size ≤ q) (fl [(w_X10 aX (0) cs en X'), (w_X11 aM (0) cs σ')]) := hD'
  replace hS := hS'
  clear hP' hD' hS'
  refine lv_icmp_eq (tgt := 901) hx hb dL_law_317 (by decide) (fun _ => ?_) (fun c9 => absurd rfl c9)
  exact kk X' σ' _ _ hRel' hP hD hS
set_option maxHeartbeats 4000000 in
set_option maxRecDepth 100000 in
theorem law_back {p : Program} {l : Launch} {e : Env} {s : State} {m : MethodId} {below : List Frame} {meth : Method} {c : Code} {b L : Nat} {xs : Nat → Int32} {dC : Nat → ClassId} {dI : Nat → Nat → Nat} {cs : Nat → ClassId} {aX aM en : Nat → Nat} (C0 : lw_At p s m meth c b L xs) (hL : L ≤ 1536) (hK : va_K (dC, dI) vwCl (tyL cs) s) {i : Nat} (hi : i + 3 ≤ L) {X : T5} {σ : T2} (hRel : Rel X σ) {H : Heap} {locs : List Loc} {ls : Array Slot} (hP : va_P (dC, dI) vwCl (fl [(w_X10 aX (0) cs en X), (w_X11 aM (0) cs σ)]) H) (hD : va_D (fun q : Nat => s.heap.size ≤ q) (fl [(w_X10 aX (0) cs en X), (w_X11 aM (0) cs σ)])) (hS : va_S (fun q : Nat => s.heap.size ≤ q) s.heap H locs) (hl : lv_has ls 4 [(0, .ref b), (1, .ref (aX 0)), (2, .ref (aM 0)), (3, .int (nI i))]) (kk : ∀ (X' : T5) (σ' : T2) (H1 : Heap) (locs1 : List Loc), Rel X' σ' → va_P (dC, dI) vwCl (fl [(w_X10 aX (0) cs en X'), (w_X11 aM (0) cs σ')]) H1 → va_D (fun q : Nat => s.heap.size ≤ q) (fl [(w_X10 aX (0) cs en X'), (w_X11 aM (0) cs σ')]) → va_S (fun q : Nat => s.heap.size ≤ q) s.heap H1 locs1 → W p l e room_1 s m #[Value.ref b] below meth c H1 locs1 213 3262 (lw_Z below #[Value.ref b] s) (F0 m 901 ls [])) : W p l e room_1 s m #[Value.ref b] below meth c H locs 213 3262 (lw_Z below #[Value.ref b] s) (F0 m 322 ls []) := by
  obtain ⟨hx, hb, hr, hml, hown, hts0, hX, hbl, hlocks, hgv⟩ := id C0
  have hown : s.vm.findClass RL = some m.cls := hown
  have hts : ∀ w ∈ wsL_law, w.before #[Value.ref b] s = true := fun w hw => hts0 w (wsL_law_in w hw)
  have hA : ∀ q : Nat, s.heap.size ≤ q → (fun q : Nat => s.heap.size ≤ q) q := fun _ h => h
  have hbA : ¬ (fun q : Nat => s.heap.size ≤ q) b := Nat.not_le.mpr hbl
  have h_1 : vp_in (nI i + nI 1) L := law_in (by omega) hL
  have h_2 : vp_in (nI i + nI 2) L := law_in (by omega) hL
  obtain ⟨r, X', σ', eX, eM, hRel'⟩ := L_back hRel (xs (nI i + nI 1).toNatClampNeg) (xs (nI i + nI 2).toNatClampNeg)
  refine lv_aload_n hx hb dL_law_322 rfl (lv_at hl 1 rfl) ?_
  refine lv_aload_n hx hb dL_law_323 rfl (lv_at hl 0 rfl) ?_
  refine lv_iload_n hx hb dL_law_324 rfl (lv_at hl 3 rfl) ?_
  refine lv_iconst (v := nI 1) hx hb dL_law_325 ic_1 ?_
  refine lv_iadd hx hb dL_law_326 ?_
  refine va_sld hx hb hX hbl hbA hS h_1 dL_law_327 ?_
  refine lv_aload_n hx hb dL_law_328 rfl (lv_at hl 0 rfl) ?_
  refine lv_iload_n hx hb dL_law_329 rfl (lv_at hl 3 rfl) ?_
  refine lv_iconst (v := nI 2) hx hb dL_law_330 ic_2 ?_
  refine lv_iadd hx hb dL_law_331 ?_
  refine va_sld hx hb hX hbl hbA hS h_2 dL_law_332 ?_
  refine cl_L (As := [.int (xs (nI i + nI 1).toNatClampNeg), .int (xs (nI i + nI 2).toNatClampNeg)]) (rest := []) (L := [(w_X10 aX (0) cs en X), (w_X11 aM (0) cs σ)]) (L' := [(w_X10 aX (0) cs en X'), (w_X11 aM (0) cs σ)]) (Wc := [(w_X10 aX (0) cs en X)]) (Wc' := [(w_X10 aX (0) cs en X')]) (is := [0]) (js := [1]) ⟨hx, hb, hml, hown, hts⟩ (k_X10_back l dC dI cs aX en H.size X (xs (nI i + nI 1).toNatClampNeg) (xs (nI i + nI 2).toNatClampNeg) r X' eX) (cwV 2 hts gL_law_X10_back rfl rfl rfl cd_X10_back ⟨(Nat.le_of_ble_eq_true rfl), (Nat.le_of_ble_eq_true rfl)⟩) hK hP hD hS hA ⟨rfl, rfl, rfl, rfl, rfl, rfl⟩ (jn_nd (is := [0]) hD rfl rfl) 0 8 rfl rfl rfl rfl rfl hl.1 (Nat.le_of_ble_eq_true rfl) dL_law_333 ⟨(Nat.le_of_ble_eq_true rfl), (Nat.le_of_ble_eq_true rfl)⟩ (fun H1 locs1 hP' hD' hS' => ?_)
  replace hP : va_P (dC, dI) vwCl (fl [(w_X10 aX (0) cs en X'), (w_X11 aM (0) cs σ)]) H1 := hP'
  replace hD : va_D (fun q : Nat => s.heap.size ≤ q) (fl [(w_X10 aX (0) cs en X'), (w_X11 aM (0) cs σ)]) := hD'
  replace hS := hS'
  clear hP' hD' hS'
  refine lv_aload_n hx hb dL_law_336 rfl (lv_at hl 2 rfl) ?_
  refine lv_aload_n hx hb dL_law_337 rfl (lv_at hl 0 rfl) ?_
  refine lv_iload_n hx hb dL_law_338 rfl (lv_at hl 3 rfl) ?_
  refine lv_iconst (v := nI 1) hx hb dL_law_339 ic_1 ?_
  refine lv_iadd hx hb dL_law_340 ?_
  refine va_sld hx hb hX hbl hbA hS h_1 dL_law_341 ?_
  refine lv_aload_n hx hb dL_law_342 rfl (lv_at hl 0 rfl) ?_
  refine lv_iload_n hx hb dL_law_343 rfl (lv_at hl 3 rfl) ?_
  refine lv_iconst (v := nI 2) hx hb dL_law_344 ic_2 ?_
  refine lv_iadd hx hb dL_law_345 ?_
  refine va_sld hx hb hX hbl hbA hS h_2 dL_law_346 ?_
  refine cl_L (As := [.int (xs (nI i + nI 1).toNatClampNeg), .int (xs (nI i + nI 2).toNatClampNeg)]) (rest := [.int r]) (L := [(w_X10 aX (0) cs en X'), (w_X11 aM (0) cs σ)]) (L' := [(w_X10 aX (0) cs en X'), (w_X11 aM (0) cs σ')]) (Wc := [(w_X11 aM (0) cs σ)]) (Wc' := [(w_X11 aM (0) cs σ')]) (is := [1]) (js := [0]) ⟨hx, hb, hml, hown, hts⟩ (k_X11_back l dC dI cs aM (0) H1.size σ (xs (nI i + nI 1).toNatClampNeg) (xs (nI i + nI 2).toNatClampNeg) r σ' eM) (cwV 2 hts gL_law_X11_back rfl rfl rfl cd_X11_back ⟨(Nat.le_of_ble_eq_true rfl), (Nat.le_of_ble_eq_true rfl)⟩) hK hP hD hS hA ⟨rfl, rfl, rfl, rfl, rfl, rfl⟩ (jn_nd (is := [1]) hD rfl rfl) 206 9 rfl rfl rfl rfl rfl hl.1 (Nat.le_of_ble_eq_true rfl) dL_law_347 ⟨(Nat.le_of_ble_eq_true rfl), (Nat.le_of_ble_eq_true rfl)⟩ (fun H2 locs2 hP' hD' hS' => ?_)
  replace hP : va_P (dC, dI) vwCl (fl [(w_X10 aX (0) cs en X'), (w_X11 aM (0) cs σ')]) H2 := hP'
  replace hD : va_D (fun q : Nat => s.heap.size ≤ q) (fl [(w_X10 aX (0) cs en X'), (w_X11 aM (0) cs σ')]) := hD'
  replace hS := hS'
  clear hP' hD' hS'
  refine lv_icmp_eq (tgt := 901) hx hb dL_law_350 (by decide) (fun _ => ?_) (fun c9 => absurd rfl c9)
  exact kk X' σ' _ _ hRel' hP hD hS
set_option maxHeartbeats 4000000 in
set_option maxRecDepth 100000 in
theorem law_full {p : Program} {l : Launch} {e : Env} {s : State} {m : MethodId} {below : List Frame} {meth : Method} {c : Code} {b L : Nat} {xs : Nat → Int32} {dC : Nat → ClassId} {dI : Nat → Nat → Nat} {cs : Nat → ClassId} {aX aM en : Nat → Nat} (C0 : lw_At p s m meth c b L xs) (hL : L ≤ 1536) (hK : va_K (dC, dI) vwCl (tyL cs) s) {i : Nat} (hi : i + 3 ≤ L) {X : T5} {σ : T2} (hRel : Rel X σ) {H : Heap} {locs : List Loc} {ls : Array Slot} (hP : va_P (dC, dI) vwCl (fl [(w_X10 aX (0) cs en X), (w_X11 aM (0) cs σ)]) H) (hD : va_D (fun q : Nat => s.heap.size ≤ q) (fl [(w_X10 aX (0) cs en X), (w_X11 aM (0) cs σ)])) (hS : va_S (fun q : Nat => s.heap.size ≤ q) s.heap H locs) (hl : lv_has ls 4 [(0, .ref b), (1, .ref (aX 0)), (2, .ref (aM 0)), (3, .int (nI i))]) (kk : ∀ (X' : T5) (σ' : T2) (H1 : Heap) (locs1 : List Loc), Rel X' σ' → va_P (dC, dI) vwCl (fl [(w_X10 aX (0) cs en X'), (w_X11 aM (0) cs σ')]) H1 → va_D (fun q : Nat => s.heap.size ≤ q) (fl [(w_X10 aX (0) cs en X'), (w_X11 aM (0) cs σ')]) → va_S (fun q : Nat => s.heap.size ≤ q) s.heap H1 locs1 → W p l e room_1 s m #[Value.ref b] below meth c H1 locs1 213 3262 (lw_Z below #[Value.ref b] s) (F0 m 901 ls [])) : W p l e room_1 s m #[Value.ref b] below meth c H locs 213 3262 (lw_Z below #[Value.ref b] s) (F0 m 355 ls []) := by
  obtain ⟨hx, hb, hr, hml, hown, hts0, hX, hbl, hlocks, hgv⟩ := id C0
  have hown : s.vm.findClass RL = some m.cls := hown
  have hts : ∀ w ∈ wsL_law, w.before #[Value.ref b] s = true := fun w hw => hts0 w (wsL_law_in w hw)
  have hA : ∀ q : Nat, s.heap.size ≤ q → (fun q : Nat => s.heap.size ≤ q) q := fun _ h => h
  have hbA : ¬ (fun q : Nat => s.heap.size ≤ q) b := Nat.not_le.mpr hbl
  have h_1 : vp_in (nI i + nI 1) L := law_in (by omega) hL
  have h_2 : vp_in (nI i + nI 2) L := law_in (by omega) hL
  obtain ⟨r, X', σ', eX, eM, hRel'⟩ := L_full hRel (xs (nI i + nI 1).toNatClampNeg) (xs (nI i + nI 2).toNatClampNeg)
  refine lv_aload_n hx hb dL_law_355 rfl (lv_at hl 1 rfl) ?_
  refine lv_aload_n hx hb dL_law_356 rfl (lv_at hl 0 rfl) ?_
  refine lv_iload_n hx hb dL_law_357 rfl (lv_at hl 3 rfl) ?_
  refine lv_iconst (v := nI 1) hx hb dL_law_358 ic_1 ?_
  refine lv_iadd hx hb dL_law_359 ?_
  refine va_sld hx hb hX hbl hbA hS h_1 dL_law_360 ?_
  refine lv_aload_n hx hb dL_law_361 rfl (lv_at hl 0 rfl) ?_
  refine lv_iload_n hx hb dL_law_362 rfl (lv_at hl 3 rfl) ?_
  refine lv_iconst (v := nI 2) hx hb dL_law_363 ic_2 ?_
  refine lv_iadd hx hb dL_law_364 ?_
  refine va_sld hx hb hX hbl hbA hS h_2 dL_law_365 ?_
  refine cl_L (As := [.int (xs (nI i + nI 1).toNatClampNeg), .int (xs (nI i + nI 2).toNatClampNeg)]) (rest := []) (L := [(w_X10 aX (0) cs en X), (w_X11 aM (0) cs σ)]) (L' := [(w_X10 aX (0) cs en X'), (w_X11 aM (0) cs σ)]) (Wc := [(w_X10 aX (0) cs en X)]) (Wc' := [(w_X10 aX (0) cs en X')]) (is := [0]) (js := [1]) ⟨hx, hb, hml, hown, hts⟩ (k_X10_full l dC dI cs aX en H.size X (xs (nI i + nI 1).toNatClampNeg) (xs (nI i + nI 2).toNatClampNeg) r X' eX) (cwV 2 hts gL_law_X10_full rfl rfl rfl cd_X10_full ⟨(Nat.le_of_ble_eq_true rfl), (Nat.le_of_ble_eq_true rfl)⟩) hK hP hD hS hA ⟨rfl, rfl, rfl, rfl, rfl, rfl⟩ (jn_nd (is := [0]) hD rfl rfl) 0 8 rfl rfl rfl rfl rfl hl.1 (Nat.le_of_ble_eq_true rfl) dL_law_366 ⟨(Nat.le_of_ble_eq_true rfl), (Nat.le_of_ble_eq_true rfl)⟩ (fun H1 locs1 hP' hD' hS' => ?_)
  replace hP : va_P (dC, dI) vwCl (fl [(w_X10 aX (0) cs en X'), (w_X11 aM (0) cs σ)]) H1 := hP'
  replace hD : va_D (fun q : Nat => s.heap.size ≤ q) (fl [(w_X10 aX (0) cs en X'), (w_X11 aM (0) cs σ)]) := hD'
  replace hS := hS'
  clear hP' hD' hS'
  refine lv_aload_n hx hb dL_law_369 rfl (lv_at hl 2 rfl) ?_
  refine lv_aload_n hx hb dL_law_370 rfl (lv_at hl 0 rfl) ?_
  refine lv_iload_n hx hb dL_law_371 rfl (lv_at hl 3 rfl) ?_
  refine lv_iconst (v := nI 1) hx hb dL_law_372 ic_1 ?_
  refine lv_iadd hx hb dL_law_373 ?_
  refine va_sld hx hb hX hbl hbA hS h_1 dL_law_374 ?_
  refine lv_aload_n hx hb dL_law_375 rfl (lv_at hl 0 rfl) ?_
  refine lv_iload_n hx hb dL_law_376 rfl (lv_at hl 3 rfl) ?_
  refine lv_iconst (v := nI 2) hx hb dL_law_377 ic_2 ?_
  refine lv_iadd hx hb dL_law_378 ?_
  refine va_sld hx hb hX hbl hbA hS h_2 dL_law_379 ?_
  refine cl_L (As := [.int (xs (nI i + nI 1).toNatClampNeg), .int (xs (nI i + nI 2).toNatClampNeg)]) (rest := [.int r]) (L := [(w_X10 aX (0) cs en X'), (w_X11 aM (0) cs σ)]) (L' := [(w_X10 aX (0) cs en X'), (w_X11 aM (0) cs σ')]) (Wc := [(w_X11 aM (0) cs σ)]) (Wc' := [(w_X11 aM (0) cs σ')]) (is := [1]) (js := [0]) ⟨hx, hb, hml, hown, hts⟩ (k_X11_full l dC dI cs aM (0) H1.size σ (xs (nI i + nI 1).toNatClampNeg) (xs (nI i + nI 2).toNatClampNeg) r σ' eM) (cwV 2 hts gL_law_X11_full rfl rfl rfl cd_X11_full ⟨(Nat.le_of_ble_eq_true rfl), (Nat.le_of_ble_eq_true rfl)⟩) hK hP hD hS hA ⟨rfl, rfl, rfl, rfl, rfl, rfl⟩ (jn_nd (is := [1]) hD rfl rfl) 206 9 rfl rfl rfl rfl rfl hl.1 (Nat.le_of_ble_eq_true rfl) dL_law_380 ⟨(Nat.le_of_ble_eq_true rfl), (Nat.le_of_ble_eq_true rfl)⟩ (fun H2 locs2 hP' hD' hS' => ?_)
  replace hP : va_P (dC, dI) vwCl (fl [(w_X10 aX (0) cs en X'), (w_X11 aM (0) cs σ')]) H2 := hP'
  replace hD : va_D (fun q : Nat => s.heap.size ≤ q) (fl [(w_X10 aX (0) cs en X'), (w_X11 aM (0) cs σ')]) := hD'
  replace hS := hS'
  clear hP' hD' hS'
  refine lv_icmp_eq (tgt := 901) hx hb dL_law_383 (by decide) (fun _ => ?_) (fun c9 => absurd rfl c9)
  exact kk X' σ' _ _ hRel' hP hD hS
