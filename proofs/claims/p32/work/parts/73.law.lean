/-! LAW: its loops and its end -/
set_option maxHeartbeats 4000000 in
set_option maxRecDepth 100000 in
theorem law_end {p : Program} {l : Launch} {e : Env} {s : State} {m : MethodId} {below : List Frame} {meth : Method} {c : Code} {b L : Nat} {xs : Nat → Int32} {dC : Nat → ClassId} {dI : Nat → Nat → Nat} {cs : Nat → ClassId} {ad en : Nat → Nat} {b1 b2 b3 b4 b5 b6 b7 : Nat} (C0 : lw_At p s m meth c b L xs) (hL : L ≤ 260) (hK : va_K (dC, dI) vwCl (tyL cs) s) {T : Nat} {G P B D R Q V : T1} {x : T5} {σ : T2} (hJ : lJ T G P B D R Q V x σ) {H : Heap} {locs : List Loc} {ls : Array Slot} {cells slots : Nat} (hc : cells ≤ 815886) (hs : slots ≤ 6654590) (hP : va_P (dC, dI) vwCl (fl [[(b1, .inl (cs 0, 8, .inl G))], [(b2, .inl (cs 0, 24, .inl P))], [(b3, .inl (cs 0, 48, .inl B))], [(b4, .inl (cs 0, 48, .inl D))], [(b5, .inl (cs 0, 40, .inl R))], [(b6, .inl (cs 0, 32, .inl Q))], [(b7, .inl (cs 0, 6, .inl V))], (w_X10 ad (0) cs en x)]) H) (hD : va_D (fun q : Nat => s.heap.size ≤ q) (fl [[(b1, .inl (cs 0, 8, .inl G))], [(b2, .inl (cs 0, 24, .inl P))], [(b3, .inl (cs 0, 48, .inl B))], [(b4, .inl (cs 0, 48, .inl D))], [(b5, .inl (cs 0, 40, .inl R))], [(b6, .inl (cs 0, 32, .inl Q))], [(b7, .inl (cs 0, 6, .inl V))], (w_X10 ad (0) cs en x)])) (hS : va_S (fun q : Nat => s.heap.size ≤ q) s.heap H locs) (hl : lv_has ls 12 [(0, .ref b), (1, .ref (ad 0)), (2, .ref b1), (3, .ref b2), (4, .ref b3), (5, .ref b4), (6, .ref b5), (7, .ref b6), (8, .ref b7), (9, .int 1)]) : W p l e room_1 s m #[Value.ref b] below meth c H locs cells slots (lw_Z below #[Value.ref b] s) (F0 m 273 ls []) := by
  obtain ⟨hx, hb, hr, hml, hown, hts0, hX, hbl, hlocks, hgv⟩ := id C0
  have hown : s.vm.findClass RL = some m.cls := hown
  have hts : ∀ w ∈ wsL_law, w.before #[Value.ref b] s = true := fun w hw => hts0 w (wsL_law_in w hw)
  have hA : ∀ q : Nat, s.heap.size ≤ q → (fun q : Nat => s.heap.size ≤ q) q := fun _ h => h
  have hbA : ¬ (fun q : Nat => s.heap.size ≤ q) b := Nat.not_le.mpr hbl
  obtain ⟨⟨⟨ns, nb, nr, nv, hI⟩, -⟩, -⟩ := id hJ.1
  refine lv_iload hx hb dL_law_273 (lv_at hl 9 rfl) ?_
  refine lv_if_eq (tgt := 302) hx hb dL_law_275 (by decide) (fun c9 => absurd c9 (by decide)) (fun c9 => ?_)
  refine lv_aload_n hx hb dL_law_278 rfl (lv_at hl 1 rfl) ?_
  refine lv_bipush (v := 16) hx hb dL_law_279 bp_16 ?_
  refine cm_Vi (As := [.int 16]) (rest := []) (L := [[(b1, .inl (cs 0, 8, .inl G))], [(b2, .inl (cs 0, 24, .inl P))], [(b3, .inl (cs 0, 48, .inl B))], [(b4, .inl (cs 0, 48, .inl D))], [(b5, .inl (cs 0, 40, .inl R))], [(b6, .inl (cs 0, 32, .inl Q))], [(b7, .inl (cs 0, 6, .inl V))], (w_X10 ad (0) cs en x)]) (L' := [[(b1, .inl (cs 0, 8, .inl G))], [(b2, .inl (cs 0, 24, .inl P))], [(b3, .inl (cs 0, 48, .inl B))], [(b4, .inl (cs 0, 48, .inl D))], [(b5, .inl (cs 0, 40, .inl R))], [(b6, .inl (cs 0, 32, .inl Q))], [(b7, .inl (cs 0, 6, .inl V))], (w_X10 ad (0) cs en x)]) (Wc := [(w_X10 ad (0) cs en x)]) (Wc' := [(w_X10 ad (0) cs en x)]) (is := [7]) (js := [0, 1, 2, 3, 4, 5, 6]) ⟨hx, hb, hml, hown, hts⟩ (k_X10_count l dC dI cs ad en H.size x 16 (-1) (VC_16 hJ.1 rfl hI)) (cwV 1 hts gL_law_X10_count rfl rfl rfl cd_X10_count ⟨(Nat.le_of_ble_eq_true rfl), (Nat.le_of_ble_eq_true rfl)⟩) hK hP hD hS hA ⟨rfl, rfl, rfl, rfl, rfl, rfl⟩ (jn_nd (is := [7]) hD rfl rfl) 7 8 rfl rfl rfl rfl rfl hl.1 (Nat.le_of_ble_eq_true rfl) dL_law_281 ⟨hc, hs⟩ (fun H1 locsH1 hP' hD' hS' => ?_)
  replace hP : va_P (dC, dI) vwCl (fl [[(b1, .inl (cs 0, 8, .inl G))], [(b2, .inl (cs 0, 24, .inl P))], [(b3, .inl (cs 0, 48, .inl B))], [(b4, .inl (cs 0, 48, .inl D))], [(b5, .inl (cs 0, 40, .inl R))], [(b6, .inl (cs 0, 32, .inl Q))], [(b7, .inl (cs 0, 6, .inl V))], (w_X10 ad (0) cs en x)]) H1 := hP'
  replace hD : va_D (fun q : Nat => s.heap.size ≤ q) (fl [[(b1, .inl (cs 0, 8, .inl G))], [(b2, .inl (cs 0, 24, .inl P))], [(b3, .inl (cs 0, 48, .inl B))], [(b4, .inl (cs 0, 48, .inl D))], [(b5, .inl (cs 0, 40, .inl R))], [(b6, .inl (cs 0, 32, .inl Q))], [(b7, .inl (cs 0, 6, .inl V))], (w_X10 ad (0) cs en x)]) := hD'
  replace hS := hS'
  clear hP' hS' hD'
  refine lv_iconst (v := (-1)) hx hb dL_law_284 ic_m1 ?_
  refine lv_icmp_ne (tgt := 302) hx hb dL_law_285 (by decide) (fun c9 => absurd rfl c9) (fun c9 => ?_)
  refine lv_aload_n hx hb dL_law_288 rfl (lv_at hl 1 rfl) ?_
  refine lv_bipush (v := 23) hx hb dL_law_289 bp_23 ?_
  refine cm_Vi (As := [.int 23]) (rest := []) (L := [[(b1, .inl (cs 0, 8, .inl G))], [(b2, .inl (cs 0, 24, .inl P))], [(b3, .inl (cs 0, 48, .inl B))], [(b4, .inl (cs 0, 48, .inl D))], [(b5, .inl (cs 0, 40, .inl R))], [(b6, .inl (cs 0, 32, .inl Q))], [(b7, .inl (cs 0, 6, .inl V))], (w_X10 ad (0) cs en x)]) (L' := [[(b1, .inl (cs 0, 8, .inl G))], [(b2, .inl (cs 0, 24, .inl P))], [(b3, .inl (cs 0, 48, .inl B))], [(b4, .inl (cs 0, 48, .inl D))], [(b5, .inl (cs 0, 40, .inl R))], [(b6, .inl (cs 0, 32, .inl Q))], [(b7, .inl (cs 0, 6, .inl V))], (w_X10 ad (0) cs en x)]) (Wc := [(w_X10 ad (0) cs en x)]) (Wc' := [(w_X10 ad (0) cs en x)]) (is := [7]) (js := [0, 1, 2, 3, 4, 5, 6]) ⟨hx, hb, hml, hown, hts⟩ (k_X10_count l dC dI cs ad en H1.size x 23 (-1) (VC_23 hJ.1 rfl hI)) (cwV 1 hts gL_law_X10_count rfl rfl rfl cd_X10_count ⟨(Nat.le_of_ble_eq_true rfl), (Nat.le_of_ble_eq_true rfl)⟩) hK hP hD hS hA ⟨rfl, rfl, rfl, rfl, rfl, rfl⟩ (jn_nd (is := [7]) hD rfl rfl) 7 8 rfl rfl rfl rfl rfl hl.1 (Nat.le_of_ble_eq_true rfl) dL_law_291 ⟨hc, hs⟩ (fun H2 locsH2 hP' hD' hS' => ?_)
  replace hP : va_P (dC, dI) vwCl (fl [[(b1, .inl (cs 0, 8, .inl G))], [(b2, .inl (cs 0, 24, .inl P))], [(b3, .inl (cs 0, 48, .inl B))], [(b4, .inl (cs 0, 48, .inl D))], [(b5, .inl (cs 0, 40, .inl R))], [(b6, .inl (cs 0, 32, .inl Q))], [(b7, .inl (cs 0, 6, .inl V))], (w_X10 ad (0) cs en x)]) H2 := hP'
  replace hD : va_D (fun q : Nat => s.heap.size ≤ q) (fl [[(b1, .inl (cs 0, 8, .inl G))], [(b2, .inl (cs 0, 24, .inl P))], [(b3, .inl (cs 0, 48, .inl B))], [(b4, .inl (cs 0, 48, .inl D))], [(b5, .inl (cs 0, 40, .inl R))], [(b6, .inl (cs 0, 32, .inl Q))], [(b7, .inl (cs 0, 6, .inl V))], (w_X10 ad (0) cs en x)]) := hD'
  replace hS := hS'
  clear hP' hS' hD'
  refine lv_iconst (v := (-1)) hx hb dL_law_294 ic_m1 ?_
  refine lv_icmp_ne (tgt := 302) hx hb dL_law_295 (by decide) (fun c9 => absurd rfl c9) (fun c9 => ?_)
  refine lv_iconst (v := 1) hx hb dL_law_298 ic_1 ?_
  refine lv_goto (tgt := 303) hx hb dL_law_299 (by decide) ?_
  refine va_forget (fun q hq => hS.2.2 q hq) ?_
  refine W.widen (k := 815886) (n := 6654590) hc hs ?_
  exact lw_ret hx hb hr hlocks dL_law_303
set_option maxHeartbeats 8000000 in
set_option maxRecDepth 100000 in
theorem law_l2 {p : Program} {l : Launch} {e : Env} {s : State} {m : MethodId} {below : List Frame} {meth : Method} {c : Code} {b L : Nat} {xs : Nat → Int32} {dC : Nat → ClassId} {dI : Nat → Nat → Nat} {cs : Nat → ClassId} {ad en : Nat → Nat} {b1 b2 b3 b4 b5 b6 b7 : Nat} (C0 : lw_At p s m meth c b L xs) (hL : L ≤ 260) (hK : va_K (dC, dI) vwCl (tyL cs) s) {tn : Nat} (htn : tn ≤ 73) : ∀ (n j : Nat) (T : Nat) (G P B D R Q V : T1) (x : T5) (σ : T2) (H : Heap) (locs : List Loc) (ls : Array Slot) (cells slots : Nat), j ≤ tn → tn - j < n → lJ T G P B D R Q V x σ → T + 120 * (tn - j) ≤ 9000 → cells + (tn - j) ≤ 815886 → slots + 4 * (tn - j) ≤ 6654590 → va_P (dC, dI) vwCl (fl [[(b1, .inl (cs 0, 8, .inl G))], [(b2, .inl (cs 0, 24, .inl P))], [(b3, .inl (cs 0, 48, .inl B))], [(b4, .inl (cs 0, 48, .inl D))], [(b5, .inl (cs 0, 40, .inl R))], [(b6, .inl (cs 0, 32, .inl Q))], [(b7, .inl (cs 0, 6, .inl V))], (w_X10 ad (0) cs en x)]) H → va_D (fun q : Nat => s.heap.size ≤ q) (fl [[(b1, .inl (cs 0, 8, .inl G))], [(b2, .inl (cs 0, 24, .inl P))], [(b3, .inl (cs 0, 48, .inl B))], [(b4, .inl (cs 0, 48, .inl D))], [(b5, .inl (cs 0, 40, .inl R))], [(b6, .inl (cs 0, 32, .inl Q))], [(b7, .inl (cs 0, 6, .inl V))], (w_X10 ad (0) cs en x)]) → va_S (fun q : Nat => s.heap.size ≤ q) s.heap H locs → lv_has ls 12 [(0, .ref b), (1, .ref (ad 0)), (2, .ref b1), (3, .ref b2), (4, .ref b3), (5, .ref b4), (6, .ref b5), (7, .ref b6), (8, .ref b7), (9, .int 1), (10, .int (nI tn)), (11, .int (nI j))] → W p l e room_1 s m #[Value.ref b] below meth c H locs cells slots (lw_Z below #[Value.ref b] s) (F0 m 194 ls []) := by
  intro n
  induction n with
  | zero => intro j T G P B D R Q V x σ H locs ls cells slots h1 h2; exact absurd h2 (by omega)
  | succ n ih =>
    intro j T G P B D R Q V x σ H locs ls cells slots h1 h2 hJ hT hc hs hP hD hS hl
    obtain ⟨hx, hb, hr, hml, hown, hts0, hX, hbl, hlocks, hgv⟩ := id C0
    have hown : s.vm.findClass RL = some m.cls := hown
    have hts : ∀ w ∈ wsL_law, w.before #[Value.ref b] s = true := fun w hw => hts0 w (wsL_law_in w hw)
    have hA : ∀ q : Nat, s.heap.size ≤ q → (fun q : Nat => s.heap.size ≤ q) q := fun _ h => h
    have hbA : ¬ (fun q : Nat => s.heap.size ≤ q) b := Nat.not_le.mpr hbl
    refine lv_iload hx hb dL_law_194 (lv_at hl 11 rfl) ?_
    refine lv_iload hx hb dL_law_196 (lv_at hl 10 rfl) ?_
    refine lv_icmp_ge (tgt := 273) hx hb dL_law_198 (by decide) (fun c1 => ?_) (fun c1 => ?_)
    · exact law_end C0 hL hK hJ (by omega) (by omega) hP hD hS (lv_sub hl [0, 1, 2, 3, 4, 5, 6, 7, 8, 9] rfl)
    have hjt : j < tn := Nat.not_le.mp (fun q => c1 (nI_le q (by omega)))
    refine lv_iload hx hb dL_law_201 (lv_at hl 9 rfl) ?_
    refine lv_if_eq (tgt := 273) hx hb dL_law_203 (by decide) (fun c9 => absurd c9 (by decide)) (fun c9 => ?_)
    refine lv_aload_n hx hb dL_law_206 rfl (lv_at hl 1 rfl) ?_
    refine lv_aload_n hx hb dL_law_207 rfl (lv_at hl 2 rfl) ?_
    refine lv_aload_n hx hb dL_law_208 rfl (lv_at hl 3 rfl) ?_
    refine lv_aload hx hb dL_law_209 (lv_at hl 4 rfl) ?_
    refine lv_aload hx hb dL_law_211 (lv_at hl 5 rfl) ?_
    refine lv_aload hx hb dL_law_213 (lv_at hl 6 rfl) ?_
    refine lv_aload hx hb dL_law_215 (lv_at hl 7 rfl) ?_
    refine lv_aload hx hb dL_law_217 (lv_at hl 8 rfl) ?_
    refine lv_aload_n hx hb dL_law_219 rfl (lv_at hl 0 rfl) ?_
    refine lv_bipush (v := 10) hx hb dL_law_220 bp_10 ?_
    refine lv_iload hx hb dL_law_222 (lv_at hl 11 rfl) ?_
    refine lv_iadd hx hb dL_law_224 ?_
    refine tp_g (show nI (10 + j) = (10 : Int32) + nI j from (nI_add 10 j).symm) ?_
    refine cm_cell (L0 := [[(b1, .inl (cs 0, 8, .inl G))], [(b2, .inl (cs 0, 24, .inl P))], [(b3, .inl (cs 0, 48, .inl B))], [(b4, .inl (cs 0, 48, .inl D))], [(b5, .inl (cs 0, 40, .inl R))], [(b6, .inl (cs 0, 32, .inl Q))], [(b7, .inl (cs 0, 6, .inl V))], (w_X10 ad (0) cs en x)]) (rest := [.ref b7, .ref b6, .ref b5, .ref b4, .ref b3, .ref b2, .ref b1, .ref (ad 0)]) (i := 10 + j) ⟨hx, hb, hml, hown, hts⟩ hX hbl hbA (by omega) (by omega) (va_cwS 2 hts gL_law_L_cell rfl rfl rfl cd_L_cell.2 ⟨(Nat.le_of_ble_eq_true rfl), (Nat.le_of_ble_eq_true rfl)⟩) hP hS hA hl.1 (Nat.le_of_ble_eq_true rfl) dL_law_225 ⟨show cells ≤ 815886 by omega, show slots ≤ 6654590 by omega⟩ (fun H1 locsH1 hP' hS' => ?_)
    replace hP : va_P (dC, dI) vwCl (fl [[(b1, .inl (cs 0, 8, .inl G))], [(b2, .inl (cs 0, 24, .inl P))], [(b3, .inl (cs 0, 48, .inl B))], [(b4, .inl (cs 0, 48, .inl D))], [(b5, .inl (cs 0, 40, .inl R))], [(b6, .inl (cs 0, 32, .inl Q))], [(b7, .inl (cs 0, 6, .inl V))], (w_X10 ad (0) cs en x)]) H1 := hP'
    replace hS := hS'
    clear hP' hS'
    refine lv_sipush (v := 7919) hx hb dL_law_228 sp_7919 ?_
    refine lv_iload hx hb dL_law_231 (lv_at hl 11 rfl) ?_
    refine lv_imul hx hb dL_law_233 ?_
    refine lv_ixor hx hb dL_law_234 ?_
    obtain ⟨G', P', B', D', R', Q', V', x', σ', eA, hJ'⟩ := A_acts hJ (fcell L xs (10 + j) ^^^ ((7919 : Int32) * nI j)) rfl (Or.inr (by omega))
    replace hJ' := hJ'.mono (T' := T + 120) (by split <;> omega)
    refine cm_Si (As := [.ref (ad 0), .ref b1, .ref b2, .ref b3, .ref b4, .ref b5, .ref b6, .ref b7, .int (fcell L xs (10 + j) ^^^ ((7919 : Int32) * nI j))]) (rest := []) (L := [[(b1, .inl (cs 0, 8, .inl G))], [(b2, .inl (cs 0, 24, .inl P))], [(b3, .inl (cs 0, 48, .inl B))], [(b4, .inl (cs 0, 48, .inl D))], [(b5, .inl (cs 0, 40, .inl R))], [(b6, .inl (cs 0, 32, .inl Q))], [(b7, .inl (cs 0, 6, .inl V))], (w_X10 ad (0) cs en x)]) (L' := [[(b1, .inl (cs 0, 8, .inl G'))], [(b2, .inl (cs 0, 24, .inl P'))], [(b3, .inl (cs 0, 48, .inl B'))], [(b4, .inl (cs 0, 48, .inl D'))], [(b5, .inl (cs 0, 40, .inl R'))], [(b6, .inl (cs 0, 32, .inl Q'))], [(b7, .inl (cs 0, 6, .inl V'))], (w_X10 ad (0) cs en x')]) (Wc := [[(b1, .inl (cs 0, 8, .inl G))], [(b2, .inl (cs 0, 24, .inl P))], [(b3, .inl (cs 0, 48, .inl B))], [(b4, .inl (cs 0, 48, .inl D))], [(b5, .inl (cs 0, 40, .inl R))], [(b6, .inl (cs 0, 32, .inl Q))], [(b7, .inl (cs 0, 6, .inl V))], (w_X10 ad (0) cs en x)]) (Wc' := [[(b1, .inl (cs 0, 8, .inl G'))], [(b2, .inl (cs 0, 24, .inl P'))], [(b3, .inl (cs 0, 48, .inl B'))], [(b4, .inl (cs 0, 48, .inl D'))], [(b5, .inl (cs 0, 40, .inl R'))], [(b6, .inl (cs 0, 32, .inl Q'))], [(b7, .inl (cs 0, 6, .inl V'))], (w_X10 ad (0) cs en x')]) (is := [0, 1, 2, 3, 4, 5, 6, 7]) (js := []) ⟨hx, hb, hml, hown, hts⟩ (k_L_acts l dC dI cs ad en b1 b2 b3 b4 b5 b6 b7 H1.size G P B D R Q V x (fcell L xs (10 + j) ^^^ ((7919 : Int32) * nI j)) 1 G' P' B' D' R' Q' V' x' eA) (va_cwS 9 hts gL_law_L_acts rfl rfl rfl cd_L_acts.2 ⟨(Nat.le_of_ble_eq_true rfl), (Nat.le_of_ble_eq_true rfl)⟩) hK hP hD hS hA ⟨rfl, rfl, rfl, rfl, rfl, rfl⟩ (jn_nd (is := [0, 1, 2, 3, 4, 5, 6, 7]) hD rfl rfl) rfl rfl hl.1 (Nat.le_of_ble_eq_true rfl) dL_law_235 ⟨show cells + 0 ≤ 815886 by omega, show slots + 0 ≤ 6654590 by omega⟩ (fun H2 locsH2 hP' hD' hS' => ?_)
    replace hP : va_P (dC, dI) vwCl (fl [[(b1, .inl (cs 0, 8, .inl G'))], [(b2, .inl (cs 0, 24, .inl P'))], [(b3, .inl (cs 0, 48, .inl B'))], [(b4, .inl (cs 0, 48, .inl D'))], [(b5, .inl (cs 0, 40, .inl R'))], [(b6, .inl (cs 0, 32, .inl Q'))], [(b7, .inl (cs 0, 6, .inl V'))], (w_X10 ad (0) cs en x')]) H2 := hP'
    replace hD : va_D (fun q : Nat => s.heap.size ≤ q) (fl [[(b1, .inl (cs 0, 8, .inl G'))], [(b2, .inl (cs 0, 24, .inl P'))], [(b3, .inl (cs 0, 48, .inl B'))], [(b4, .inl (cs 0, 48, .inl D'))], [(b5, .inl (cs 0, 40, .inl R'))], [(b6, .inl (cs 0, 32, .inl Q'))], [(b7, .inl (cs 0, 6, .inl V'))], (w_X10 ad (0) cs en x')]) := hD'
    replace hS := hS'
    clear hP' hS' hD'
    refine lv_if_eq (tgt := 264) hx hb dL_law_238 (by decide) (fun c9 => absurd c9 (by decide)) (fun c9 => ?_)
    refine lv_aload_n hx hb dL_law_241 rfl (lv_at hl 1 rfl) ?_
    refine lv_aload_n hx hb dL_law_242 rfl (lv_at hl 2 rfl) ?_
    refine lv_aload_n hx hb dL_law_243 rfl (lv_at hl 3 rfl) ?_
    refine lv_aload hx hb dL_law_244 (lv_at hl 4 rfl) ?_
    refine lv_aload hx hb dL_law_246 (lv_at hl 5 rfl) ?_
    refine lv_aload hx hb dL_law_248 (lv_at hl 6 rfl) ?_
    refine lv_aload hx hb dL_law_250 (lv_at hl 7 rfl) ?_
    refine lv_aload hx hb dL_law_252 (lv_at hl 8 rfl) ?_
    obtain ⟨x2, eS, hJ2⟩ := A_isSo hJ'
    refine cm_Si (As := [.ref (ad 0), .ref b1, .ref b2, .ref b3, .ref b4, .ref b5, .ref b6, .ref b7]) (rest := []) (L := [[(b1, .inl (cs 0, 8, .inl G'))], [(b2, .inl (cs 0, 24, .inl P'))], [(b3, .inl (cs 0, 48, .inl B'))], [(b4, .inl (cs 0, 48, .inl D'))], [(b5, .inl (cs 0, 40, .inl R'))], [(b6, .inl (cs 0, 32, .inl Q'))], [(b7, .inl (cs 0, 6, .inl V'))], (w_X10 ad (0) cs en x')]) (L' := [[(b1, .inl (cs 0, 8, .inl G'))], [(b2, .inl (cs 0, 24, .inl P'))], [(b3, .inl (cs 0, 48, .inl B'))], [(b4, .inl (cs 0, 48, .inl D'))], [(b5, .inl (cs 0, 40, .inl R'))], [(b6, .inl (cs 0, 32, .inl Q'))], [(b7, .inl (cs 0, 6, .inl V'))], (w_X10 ad (0) cs en x2)]) (Wc := [[(b1, .inl (cs 0, 8, .inl G'))], [(b2, .inl (cs 0, 24, .inl P'))], [(b3, .inl (cs 0, 48, .inl B'))], [(b4, .inl (cs 0, 48, .inl D'))], [(b5, .inl (cs 0, 40, .inl R'))], [(b6, .inl (cs 0, 32, .inl Q'))], [(b7, .inl (cs 0, 6, .inl V'))], (w_X10 ad (0) cs en x')]) (Wc' := [[(b1, .inl (cs 0, 8, .inl G'))], [(b2, .inl (cs 0, 24, .inl P'))], [(b3, .inl (cs 0, 48, .inl B'))], [(b4, .inl (cs 0, 48, .inl D'))], [(b5, .inl (cs 0, 40, .inl R'))], [(b6, .inl (cs 0, 32, .inl Q'))], [(b7, .inl (cs 0, 6, .inl V'))], (w_X10 ad (0) cs en x2)]) (is := [0, 1, 2, 3, 4, 5, 6, 7]) (js := []) ⟨hx, hb, hml, hown, hts⟩ (k_L_isSo l dC dI cs ad en b1 b2 b3 b4 b5 b6 b7 H2.size G' P' B' D' R' Q' V' x' 1 x2 eS) (va_cwS 8 hts gL_law_L_isSo rfl rfl rfl cd_L_isSo.2 ⟨(Nat.le_of_ble_eq_true rfl), (Nat.le_of_ble_eq_true rfl)⟩) hK hP hD hS hA ⟨rfl, rfl, rfl, rfl, rfl, rfl⟩ (jn_nd (is := [0, 1, 2, 3, 4, 5, 6, 7]) hD rfl rfl) rfl rfl hl.1 (Nat.le_of_ble_eq_true rfl) dL_law_254 ⟨show cells + 0 + 1 ≤ 815886 by omega, show slots + 0 + 4 ≤ 6654590 by omega⟩ (fun H3 locsH3 hP' hD' hS' => ?_)
    replace hP : va_P (dC, dI) vwCl (fl [[(b1, .inl (cs 0, 8, .inl G'))], [(b2, .inl (cs 0, 24, .inl P'))], [(b3, .inl (cs 0, 48, .inl B'))], [(b4, .inl (cs 0, 48, .inl D'))], [(b5, .inl (cs 0, 40, .inl R'))], [(b6, .inl (cs 0, 32, .inl Q'))], [(b7, .inl (cs 0, 6, .inl V'))], (w_X10 ad (0) cs en x2)]) H3 := hP'
    replace hD : va_D (fun q : Nat => s.heap.size ≤ q) (fl [[(b1, .inl (cs 0, 8, .inl G'))], [(b2, .inl (cs 0, 24, .inl P'))], [(b3, .inl (cs 0, 48, .inl B'))], [(b4, .inl (cs 0, 48, .inl D'))], [(b5, .inl (cs 0, 40, .inl R'))], [(b6, .inl (cs 0, 32, .inl Q'))], [(b7, .inl (cs 0, 6, .inl V'))], (w_X10 ad (0) cs en x2)]) := hD'
    replace hS := hS'
    clear hP' hS' hD'
    refine lv_if_eq (tgt := 264) hx hb dL_law_257 (by decide) (fun c9 => absurd c9 (by decide)) (fun c9 => ?_)
    refine lv_iconst (v := 1) hx hb dL_law_260 ic_1 ?_
    refine lv_goto (tgt := 265) hx hb dL_law_261 (by decide) ?_
    refine lv_istore (lv' := [(9, .int 1), (0, .ref b), (1, .ref (ad 0)), (2, .ref b1), (3, .ref b2), (4, .ref b3), (5, .ref b4), (6, .ref b5), (7, .ref b6), (8, .ref b7), (10, .int (nI tn)), (11, .int (nI j))]) hx hb dL_law_265 hl (Nat.le_of_ble_eq_true rfl) rfl (fun ls hl => ?_)
    refine lv_iinc (v := ((nI j) + 1)) (lv' := [(11, .int ((nI j) + 1)), (9, .int 1), (0, .ref b), (1, .ref (ad 0)), (2, .ref b1), (3, .ref b2), (4, .ref b3), (5, .ref b4), (6, .ref b5), (7, .ref b6), (8, .ref b7), (10, .int (nI tn))]) hx hb dL_law_267 hl (k := 11) rfl rfl (Nat.le_of_ble_eq_true rfl) rfl (fun ls hl => ?_)
    refine lv_goto (tgt := 194) hx hb dL_law_270 (by decide) ?_
    rw [nI_1] at hl
    exact ih (j + 1) (T + 120) G' P' B' D' R' Q' V' x2 σ' H3 _ ls _ _ (by omega) (by omega) hJ2 (by omega) (by omega) (by omega) hP hD hS (lv_sub hl [2, 3, 4, 5, 6, 7, 8, 9, 10, 1, 11, 0] rfl)
set_option maxHeartbeats 4000000 in
set_option maxRecDepth 100000 in
theorem law_mid {p : Program} {l : Launch} {e : Env} {s : State} {m : MethodId} {below : List Frame} {meth : Method} {c : Code} {b L : Nat} {xs : Nat → Int32} {dC : Nat → ClassId} {dI : Nat → Nat → Nat} {cs : Nat → ClassId} {ad en : Nat → Nat} {b1 b2 b3 b4 b5 b6 b7 : Nat} (C0 : lw_At p s m meth c b L xs) (hL : L ≤ 260) (hK : va_K (dC, dI) vwCl (tyL cs) s) {G P B D R Q V : T1} {x : T5} {σ : T2} (hJ : lJ 0 G P B D R Q V x σ) {H : Heap} {locs : List Loc} {ls : Array Slot} {cells slots : Nat} (hc : cells + 73 ≤ 815886) (hs : slots + 292 ≤ 6654590) (hP : va_P (dC, dI) vwCl (fl [[(b1, .inl (cs 0, 8, .inl G))], [(b2, .inl (cs 0, 24, .inl P))], [(b3, .inl (cs 0, 48, .inl B))], [(b4, .inl (cs 0, 48, .inl D))], [(b5, .inl (cs 0, 40, .inl R))], [(b6, .inl (cs 0, 32, .inl Q))], [(b7, .inl (cs 0, 6, .inl V))], (w_X10 ad (0) cs en x)]) H) (hD : va_D (fun q : Nat => s.heap.size ≤ q) (fl [[(b1, .inl (cs 0, 8, .inl G))], [(b2, .inl (cs 0, 24, .inl P))], [(b3, .inl (cs 0, 48, .inl B))], [(b4, .inl (cs 0, 48, .inl D))], [(b5, .inl (cs 0, 40, .inl R))], [(b6, .inl (cs 0, 32, .inl Q))], [(b7, .inl (cs 0, 6, .inl V))], (w_X10 ad (0) cs en x)])) (hS : va_S (fun q : Nat => s.heap.size ≤ q) s.heap H locs) (hl : lv_has ls 12 [(0, .ref b), (1, .ref (ad 0)), (2, .ref b1), (3, .ref b2), (4, .ref b3), (5, .ref b4), (6, .ref b5), (7, .ref b6), (8, .ref b7), (9, .int 1)]) : W p l e room_1 s m #[Value.ref b] below meth c H locs cells slots (lw_Z below #[Value.ref b] s) (F0 m 176 ls []) := by
  obtain ⟨hx, hb, hr, hml, hown, hts0, hX, hbl, hlocks, hgv⟩ := id C0
  have hown : s.vm.findClass RL = some m.cls := hown
  have hts : ∀ w ∈ wsL_law, w.before #[Value.ref b] s = true := fun w hw => hts0 w (wsL_law_in w hw)
  have hA : ∀ q : Nat, s.heap.size ≤ q → (fun q : Nat => s.heap.size ≤ q) q := fun _ h => h
  have hbA : ¬ (fun q : Nat => s.heap.size ≤ q) b := Nat.not_le.mpr hbl
  refine lv_bipush (v := 14) hx hb dL_law_176 bp_14 ?_
  refine lv_aload_n hx hb dL_law_178 rfl (lv_at hl 0 rfl) ?_
  refine lv_iconst (v := nI 0) hx hb dL_law_179 ic_0 ?_
  refine cm_cell (L0 := [[(b1, .inl (cs 0, 8, .inl G))], [(b2, .inl (cs 0, 24, .inl P))], [(b3, .inl (cs 0, 48, .inl B))], [(b4, .inl (cs 0, 48, .inl D))], [(b5, .inl (cs 0, 40, .inl R))], [(b6, .inl (cs 0, 32, .inl Q))], [(b7, .inl (cs 0, 6, .inl V))], (w_X10 ad (0) cs en x)]) (rest := [.int 14]) (i := 0) ⟨hx, hb, hml, hown, hts⟩ hX hbl hbA (by omega) (by omega) (va_cwS 2 hts gL_law_L_cell rfl rfl rfl cd_L_cell.2 ⟨(Nat.le_of_ble_eq_true rfl), (Nat.le_of_ble_eq_true rfl)⟩) hP hS hA hl.1 (Nat.le_of_ble_eq_true rfl) dL_law_180 ⟨show cells ≤ 815886 by omega, show slots ≤ 6654590 by omega⟩ (fun H1 locsH1 hP' hS' => ?_)
  replace hP : va_P (dC, dI) vwCl (fl [[(b1, .inl (cs 0, 8, .inl G))], [(b2, .inl (cs 0, 24, .inl P))], [(b3, .inl (cs 0, 48, .inl B))], [(b4, .inl (cs 0, 48, .inl D))], [(b5, .inl (cs 0, 40, .inl R))], [(b6, .inl (cs 0, 32, .inl Q))], [(b7, .inl (cs 0, 6, .inl V))], (w_X10 ad (0) cs en x)]) H1 := hP'
  replace hS := hS'
  clear hP' hS'
  refine lv_bipush (v := 60) hx hb dL_law_183 bp_60 ?_
  obtain ⟨y, hy, ey⟩ := low_e (fcell L xs (0)) (n := 60) (by decide) (by decide)
  refine cm_Si (As := [.int (fcell L xs (0)), .int 60]) (rest := [.int 14]) (L := [[(b1, .inl (cs 0, 8, .inl G))], [(b2, .inl (cs 0, 24, .inl P))], [(b3, .inl (cs 0, 48, .inl B))], [(b4, .inl (cs 0, 48, .inl D))], [(b5, .inl (cs 0, 40, .inl R))], [(b6, .inl (cs 0, 32, .inl Q))], [(b7, .inl (cs 0, 6, .inl V))], (w_X10 ad (0) cs en x)]) (L' := [[(b1, .inl (cs 0, 8, .inl G))], [(b2, .inl (cs 0, 24, .inl P))], [(b3, .inl (cs 0, 48, .inl B))], [(b4, .inl (cs 0, 48, .inl D))], [(b5, .inl (cs 0, 40, .inl R))], [(b6, .inl (cs 0, 32, .inl Q))], [(b7, .inl (cs 0, 6, .inl V))], (w_X10 ad (0) cs en x)]) (Wc := []) (Wc' := []) (is := []) (js := [0, 1, 2, 3, 4, 5, 6, 7]) ⟨hx, hb, hml, hown, hts⟩ (k_L_low l dC dI cs ad H1.size (fcell L xs (0)) 60 (nI y) ey) (va_cwS 2 hts gL_law_L_low rfl rfl rfl cd_L_low.2 ⟨(Nat.le_of_ble_eq_true rfl), (Nat.le_of_ble_eq_true rfl)⟩) hK hP hD hS hA ⟨rfl, rfl, rfl, rfl, rfl, rfl⟩ (jn_nd (is := []) hD rfl rfl) rfl rfl hl.1 (Nat.le_of_ble_eq_true rfl) dL_law_185 ⟨show cells + 0 ≤ 815886 by omega, show slots + 0 ≤ 6654590 by omega⟩ (fun H2 locsH2 hP' hD' hS' => ?_)
  replace hP : va_P (dC, dI) vwCl (fl [[(b1, .inl (cs 0, 8, .inl G))], [(b2, .inl (cs 0, 24, .inl P))], [(b3, .inl (cs 0, 48, .inl B))], [(b4, .inl (cs 0, 48, .inl D))], [(b5, .inl (cs 0, 40, .inl R))], [(b6, .inl (cs 0, 32, .inl Q))], [(b7, .inl (cs 0, 6, .inl V))], (w_X10 ad (0) cs en x)]) H2 := hP'
  replace hD : va_D (fun q : Nat => s.heap.size ≤ q) (fl [[(b1, .inl (cs 0, 8, .inl G))], [(b2, .inl (cs 0, 24, .inl P))], [(b3, .inl (cs 0, 48, .inl B))], [(b4, .inl (cs 0, 48, .inl D))], [(b5, .inl (cs 0, 40, .inl R))], [(b6, .inl (cs 0, 32, .inl Q))], [(b7, .inl (cs 0, 6, .inl V))], (w_X10 ad (0) cs en x)]) := hD'
  replace hS := hS'
  clear hP' hS' hD'
  refine lv_iadd hx hb dL_law_188 ?_
  refine tp_g (show nI (14 + y) = (14 : Int32) + nI y from (nI_add 14 y).symm) ?_
  refine lv_istore (lv' := [(10, .int (nI (14 + y))), (0, .ref b), (1, .ref (ad 0)), (2, .ref b1), (3, .ref b2), (4, .ref b3), (5, .ref b4), (6, .ref b5), (7, .ref b6), (8, .ref b7), (9, .int 1)]) hx hb dL_law_189 hl (Nat.le_of_ble_eq_true rfl) rfl (fun ls hl => ?_)
  refine lv_iconst (v := nI 0) hx hb dL_law_191 ic_0 ?_
  refine lv_istore (lv' := [(11, .int (nI 0)), (10, .int (nI (14 + y))), (0, .ref b), (1, .ref (ad 0)), (2, .ref b1), (3, .ref b2), (4, .ref b3), (5, .ref b4), (6, .ref b5), (7, .ref b6), (8, .ref b7), (9, .int 1)]) hx hb dL_law_192 hl (Nat.le_of_ble_eq_true rfl) rfl (fun ls hl => ?_)
  exact law_l2 C0 hL hK (tn := 14 + y) (by omega) (14 + y + 1) 0 0 G P B D R Q V x σ H2 _ ls _ _ (Nat.zero_le _) (by omega) hJ (by omega) (show cells + 0 + (14 + y - 0) ≤ 815886 by omega) (show slots + 0 + 4 * (14 + y - 0) ≤ 6654590 by omega) hP hD hS (lv_sub hl [2, 3, 4, 5, 6, 7, 8, 9, 10, 11, 1, 0] rfl)
theorem base_z (v : Int32) {k : Nat} (hk : k = 0 ∨ k = 1 ∨ k = 5 ∨ k = 6) : ((v &&& 2147483647) / 960 * 960 + nI k).toBitVec.toNat % 2 ^ 31 % 30 = k := by
  have e : v &&& 2147483647 = nI (v.toBitVec.toNat % 2 ^ 31) := pk_and v 31 (by decide)
  have hl : v.toBitVec.toNat % 2 ^ 31 < 2 ^ 31 := Nat.mod_lt _ (by decide)
  obtain ⟨q, hq⟩ : ∃ q, q = v.toBitVec.toNat % 2 ^ 31 := ⟨_, rfl⟩
  rw [← hq] at e hl
  rw [e, show (960 : Int32) = nI 960 from rfl, pk_div hl (by decide) (by decide), pk_mul, nI_add, pk_tn (by omega)]
  have h1 : q / 960 ≤ 2236962 := by omega
  have h2 : q / 960 * 960 + k < 2 ^ 31 := by omega
  rw [Nat.mod_eq_of_lt h2]
  omega
set_option maxHeartbeats 8000000 in
set_option maxRecDepth 100000 in
theorem law_l1 {p : Program} {l : Launch} {e : Env} {s : State} {m : MethodId} {below : List Frame} {meth : Method} {c : Code} {b L : Nat} {xs : Nat → Int32} {dC : Nat → ClassId} {dI : Nat → Nat → Nat} {cs : Nat → ClassId} {ad en : Nat → Nat} {b1 b2 b3 b4 b5 b6 b7 : Nat} (C0 : lw_At p s m meth c b L xs) (hL : L ≤ 260) (hK : va_K (dC, dI) vwCl (tyL cs) s) : ∀ (n i : Nat) (G P B D R Q V : T1) (x : T5) (σ : T2) (H : Heap) (locs : List Loc) (ls : Array Slot) (cells slots : Nat), i ≤ 9 → 9 - i < n → lJ 0 G P B D R Q V x σ → cells + 73 ≤ 815886 → slots + 292 ≤ 6654590 → va_P (dC, dI) vwCl (fl [[(b1, .inl (cs 0, 8, .inl G))], [(b2, .inl (cs 0, 24, .inl P))], [(b3, .inl (cs 0, 48, .inl B))], [(b4, .inl (cs 0, 48, .inl D))], [(b5, .inl (cs 0, 40, .inl R))], [(b6, .inl (cs 0, 32, .inl Q))], [(b7, .inl (cs 0, 6, .inl V))], (w_X10 ad (0) cs en x)]) H → va_D (fun q : Nat => s.heap.size ≤ q) (fl [[(b1, .inl (cs 0, 8, .inl G))], [(b2, .inl (cs 0, 24, .inl P))], [(b3, .inl (cs 0, 48, .inl B))], [(b4, .inl (cs 0, 48, .inl D))], [(b5, .inl (cs 0, 40, .inl R))], [(b6, .inl (cs 0, 32, .inl Q))], [(b7, .inl (cs 0, 6, .inl V))], (w_X10 ad (0) cs en x)]) → va_S (fun q : Nat => s.heap.size ≤ q) s.heap H locs → lv_has ls 12 [(0, .ref b), (1, .ref (ad 0)), (2, .ref b1), (3, .ref b2), (4, .ref b3), (5, .ref b4), (6, .ref b5), (7, .ref b6), (8, .ref b7), (9, .int 1), (10, .int (nI i))] → W p l e room_1 s m #[Value.ref b] below meth c H locs cells slots (lw_Z below #[Value.ref b] s) (F0 m 86 ls []) := by
  intro n
  induction n with
  | zero => intro i G P B D R Q V x σ H locs ls cells slots h1 h2; exact absurd h2 (by omega)
  | succ n ih =>
    intro i G P B D R Q V x σ H locs ls cells slots h1 h2 hJ hc hs hP hD hS hl
    obtain ⟨hx, hb, hr, hml, hown, hts0, hX, hbl, hlocks, hgv⟩ := id C0
    have hown : s.vm.findClass RL = some m.cls := hown
    have hts : ∀ w ∈ wsL_law, w.before #[Value.ref b] s = true := fun w hw => hts0 w (wsL_law_in w hw)
    have hA : ∀ q : Nat, s.heap.size ≤ q → (fun q : Nat => s.heap.size ≤ q) q := fun _ h => h
    have hbA : ¬ (fun q : Nat => s.heap.size ≤ q) b := Nat.not_le.mpr hbl
    refine lv_iload hx hb dL_law_86 (lv_at hl 10 rfl) ?_
    refine lv_bipush (v := 9) hx hb dL_law_88 bp_9 ?_
    refine lv_icmp_ge (tgt := 176) hx hb dL_law_90 (by decide) (fun c1 => ?_) (fun c1 => ?_)
    · exact law_mid C0 hL hK hJ hc hs hP hD hS (lv_sub hl [0, 1, 2, 3, 4, 5, 6, 7, 8, 9] rfl)
    have hjt : i < 9 := Nat.not_le.mp (fun q => c1 (nI_le (a := 9) q (by omega)))
    refine lv_iload hx hb dL_law_93 (lv_at hl 9 rfl) ?_
    refine lv_if_eq (tgt := 176) hx hb dL_law_95 (by decide) (fun c9 => absurd c9 (by decide)) (fun c9 => ?_)
    refine lv_aload_n hx hb dL_law_98 rfl (lv_at hl 1 rfl) ?_
    refine lv_aload_n hx hb dL_law_99 rfl (lv_at hl 2 rfl) ?_
    refine lv_aload_n hx hb dL_law_100 rfl (lv_at hl 3 rfl) ?_
    refine lv_aload hx hb dL_law_101 (lv_at hl 4 rfl) ?_
    refine lv_aload hx hb dL_law_103 (lv_at hl 5 rfl) ?_
    refine lv_aload hx hb dL_law_105 (lv_at hl 6 rfl) ?_
    refine lv_aload hx hb dL_law_107 (lv_at hl 7 rfl) ?_
    refine lv_aload hx hb dL_law_109 (lv_at hl 8 rfl) ?_
    refine lv_aload_n hx hb dL_law_111 rfl (lv_at hl 0 rfl) ?_
    refine lv_iconst (v := 1) hx hb dL_law_112 ic_1 ?_
    refine lv_iload hx hb dL_law_113 (lv_at hl 10 rfl) ?_
    refine lv_iadd hx hb dL_law_115 ?_
    refine tp_g (show nI (1 + i) = (1 : Int32) + nI i from (nI_add 1 i).symm) ?_
    refine cm_cell (L0 := [[(b1, .inl (cs 0, 8, .inl G))], [(b2, .inl (cs 0, 24, .inl P))], [(b3, .inl (cs 0, 48, .inl B))], [(b4, .inl (cs 0, 48, .inl D))], [(b5, .inl (cs 0, 40, .inl R))], [(b6, .inl (cs 0, 32, .inl Q))], [(b7, .inl (cs 0, 6, .inl V))], (w_X10 ad (0) cs en x)]) (rest := [.ref b7, .ref b6, .ref b5, .ref b4, .ref b3, .ref b2, .ref b1, .ref (ad 0)]) (i := 1 + i) ⟨hx, hb, hml, hown, hts⟩ hX hbl hbA (by omega) (by omega) (va_cwS 2 hts gL_law_L_cell rfl rfl rfl cd_L_cell.2 ⟨(Nat.le_of_ble_eq_true rfl), (Nat.le_of_ble_eq_true rfl)⟩) hP hS hA hl.1 (Nat.le_of_ble_eq_true rfl) dL_law_116 ⟨show cells ≤ 815886 by omega, show slots ≤ 6654590 by omega⟩ (fun H1 locsH1 hP' hS' => ?_)
    replace hP : va_P (dC, dI) vwCl (fl [[(b1, .inl (cs 0, 8, .inl G))], [(b2, .inl (cs 0, 24, .inl P))], [(b3, .inl (cs 0, 48, .inl B))], [(b4, .inl (cs 0, 48, .inl D))], [(b5, .inl (cs 0, 40, .inl R))], [(b6, .inl (cs 0, 32, .inl Q))], [(b7, .inl (cs 0, 6, .inl V))], (w_X10 ad (0) cs en x)]) H1 := hP'
    replace hS := hS'
    clear hP' hS'
    refine lv_ldc (v := 2147483647) hx hb hown (hts (.constant RL 8 (2147483647)) (List.mem_of_getElem? (i := 4) rfl)) dL_law_119 ?_
    refine lv_iand hx hb dL_law_121 ?_
    refine lv_sipush (v := 960) hx hb dL_law_122 sp_960 ?_
    refine lv_idiv hx hb dL_law_125 (by decide) ?_
    refine lv_sipush (v := 960) hx hb dL_law_126 sp_960 ?_
    refine lv_imul hx hb dL_law_129 ?_
    have key : ∀ k : Nat, (k = 0 ∨ k = 1 ∨ k = 5 ∨ k = 6) → W p l e room_1 s m #[Value.ref b] below meth c H1 locsH1 cells slots (lw_Z below #[Value.ref b] s) (F0 m 164 ls [.int (nI k), .int ((fcell L xs (1 + i) &&& 2147483647) / 960 * 960), .ref b7, .ref b6, .ref b5, .ref b4, .ref b3, .ref b2, .ref b1, .ref (ad 0)]) := fun k hk => by
      refine lv_iadd hx hb dL_law_164 ?_
      have hA2 := A_acts hJ (((fcell L xs (1 + i) &&& 2147483647) / 960 * 960) + nI k) (w := k) (base_z _ hk).symm (Or.inl (by omega))
      rw [if_pos (show k < 23 by omega)] at hA2
      obtain ⟨G', P', B', D', R', Q', V', x', σ', eA, hJ'⟩ := hA2
      refine cm_Si (As := [.ref (ad 0), .ref b1, .ref b2, .ref b3, .ref b4, .ref b5, .ref b6, .ref b7, .int (((fcell L xs (1 + i) &&& 2147483647) / 960 * 960) + nI k)]) (rest := []) (L := [[(b1, .inl (cs 0, 8, .inl G))], [(b2, .inl (cs 0, 24, .inl P))], [(b3, .inl (cs 0, 48, .inl B))], [(b4, .inl (cs 0, 48, .inl D))], [(b5, .inl (cs 0, 40, .inl R))], [(b6, .inl (cs 0, 32, .inl Q))], [(b7, .inl (cs 0, 6, .inl V))], (w_X10 ad (0) cs en x)]) (L' := [[(b1, .inl (cs 0, 8, .inl G'))], [(b2, .inl (cs 0, 24, .inl P'))], [(b3, .inl (cs 0, 48, .inl B'))], [(b4, .inl (cs 0, 48, .inl D'))], [(b5, .inl (cs 0, 40, .inl R'))], [(b6, .inl (cs 0, 32, .inl Q'))], [(b7, .inl (cs 0, 6, .inl V'))], (w_X10 ad (0) cs en x')]) (Wc := [[(b1, .inl (cs 0, 8, .inl G))], [(b2, .inl (cs 0, 24, .inl P))], [(b3, .inl (cs 0, 48, .inl B))], [(b4, .inl (cs 0, 48, .inl D))], [(b5, .inl (cs 0, 40, .inl R))], [(b6, .inl (cs 0, 32, .inl Q))], [(b7, .inl (cs 0, 6, .inl V))], (w_X10 ad (0) cs en x)]) (Wc' := [[(b1, .inl (cs 0, 8, .inl G'))], [(b2, .inl (cs 0, 24, .inl P'))], [(b3, .inl (cs 0, 48, .inl B'))], [(b4, .inl (cs 0, 48, .inl D'))], [(b5, .inl (cs 0, 40, .inl R'))], [(b6, .inl (cs 0, 32, .inl Q'))], [(b7, .inl (cs 0, 6, .inl V'))], (w_X10 ad (0) cs en x')]) (is := [0, 1, 2, 3, 4, 5, 6, 7]) (js := []) ⟨hx, hb, hml, hown, hts⟩ (k_L_acts l dC dI cs ad en b1 b2 b3 b4 b5 b6 b7 H1.size G P B D R Q V x (((fcell L xs (1 + i) &&& 2147483647) / 960 * 960) + nI k) 1 G' P' B' D' R' Q' V' x' eA) (va_cwS 9 hts gL_law_L_acts rfl rfl rfl cd_L_acts.2 ⟨(Nat.le_of_ble_eq_true rfl), (Nat.le_of_ble_eq_true rfl)⟩) hK hP hD hS hA ⟨rfl, rfl, rfl, rfl, rfl, rfl⟩ (jn_nd (is := [0, 1, 2, 3, 4, 5, 6, 7]) hD rfl rfl) rfl rfl hl.1 (Nat.le_of_ble_eq_true rfl) dL_law_165 ⟨show cells + 0 ≤ 815886 by omega, show slots + 0 ≤ 6654590 by omega⟩ (fun H2 locsH2 hP' hD' hS' => ?_)
      replace hP : va_P (dC, dI) vwCl (fl [[(b1, .inl (cs 0, 8, .inl G'))], [(b2, .inl (cs 0, 24, .inl P'))], [(b3, .inl (cs 0, 48, .inl B'))], [(b4, .inl (cs 0, 48, .inl D'))], [(b5, .inl (cs 0, 40, .inl R'))], [(b6, .inl (cs 0, 32, .inl Q'))], [(b7, .inl (cs 0, 6, .inl V'))], (w_X10 ad (0) cs en x')]) H2 := hP'
      replace hD : va_D (fun q : Nat => s.heap.size ≤ q) (fl [[(b1, .inl (cs 0, 8, .inl G'))], [(b2, .inl (cs 0, 24, .inl P'))], [(b3, .inl (cs 0, 48, .inl B'))], [(b4, .inl (cs 0, 48, .inl D'))], [(b5, .inl (cs 0, 40, .inl R'))], [(b6, .inl (cs 0, 32, .inl Q'))], [(b7, .inl (cs 0, 6, .inl V'))], (w_X10 ad (0) cs en x')]) := hD'
      replace hS := hS'
      clear hP' hS' hD'
      refine lv_istore (lv' := [(9, .int 1), (0, .ref b), (1, .ref (ad 0)), (2, .ref b1), (3, .ref b2), (4, .ref b3), (5, .ref b4), (6, .ref b5), (7, .ref b6), (8, .ref b7), (10, .int (nI i))]) hx hb dL_law_168 hl (Nat.le_of_ble_eq_true rfl) rfl (fun ls hl => ?_)
      refine lv_iinc (v := ((nI i) + 1)) (lv' := [(10, .int ((nI i) + 1)), (9, .int 1), (0, .ref b), (1, .ref (ad 0)), (2, .ref b1), (3, .ref b2), (4, .ref b3), (5, .ref b4), (6, .ref b5), (7, .ref b6), (8, .ref b7)]) hx hb dL_law_170 hl (k := 10) rfl rfl (Nat.le_of_ble_eq_true rfl) rfl (fun ls hl => ?_)
      refine lv_goto (tgt := 86) hx hb dL_law_173 (by decide) ?_
      rw [nI_1] at hl
      exact ih (i + 1) G' P' B' D' R' Q' V' x' σ' H2 _ ls _ _ (by omega) (by omega) hJ' hc hs hP hD hS (lv_sub hl [2, 3, 4, 5, 6, 7, 8, 9, 10, 1, 0] rfl)
    refine lv_iload hx hb dL_law_130 (lv_at hl 10 rfl) ?_
    refine lv_iconst (v := 3) hx hb dL_law_132 ic_3 ?_
    refine lv_icmp_ge (tgt := 140) hx hb dL_law_133 (by decide) (fun c2 => ?_) (fun c2 => ?_)
    · refine lv_iload hx hb dL_law_140 (lv_at hl 10 rfl) ?_
      refine lv_bipush (v := 6) hx hb dL_law_142 bp_6 ?_
      refine lv_icmp_ge (tgt := 151) hx hb dL_law_144 (by decide) (fun c3 => ?_) (fun c3 => ?_)
      · refine lv_iload hx hb dL_law_151 (lv_at hl 10 rfl) ?_
        refine lv_bipush (v := 8) hx hb dL_law_153 bp_8 ?_
        refine lv_icmp_ge (tgt := 162) hx hb dL_law_155 (by decide) (fun c4 => ?_) (fun c4 => ?_)
        · refine lv_bipush (v := nI 6) hx hb dL_law_162 bp_6 ?_
          exact key 6 (by decide)
        · refine lv_iconst (v := nI 5) hx hb dL_law_158 ic_5 ?_
          refine lv_goto (tgt := 164) hx hb dL_law_159 (by decide) ?_
          exact key 5 (by decide)
      · refine lv_iconst (v := nI 1) hx hb dL_law_147 ic_1 ?_
        refine lv_goto (tgt := 164) hx hb dL_law_148 (by decide) ?_
        exact key 1 (by decide)
    · refine lv_iconst (v := nI 0) hx hb dL_law_136 ic_0 ?_
      refine lv_goto (tgt := 164) hx hb dL_law_137 (by decide) ?_
      exact key 0 (by decide)
