/-! LAW 3: brings -/
theorem bg_st {g g' : T1} {n : Nat} (h : lBG g) (h0 : g 0 = nI n) (hn : n < 6) (e0 : g' 0 = nI (n + 1)) (e2 : g' 2 = g 2) (hs : ∀ k, k < n → g' (8 + 4 * k + 2) = g (8 + 4 * k + 2)) (hz : g' (8 + 4 * n + 2) = 0) (hr : ∀ k, k < 8 → g' (128 + 9 * k + 7) = g (128 + 9 * k + 7) ∧ g' (128 + 9 * k + 2) = g (128 + 9 * k + 2)) : lBG g' := by
  obtain ⟨ns, nr, a, b, c, d, e⟩ := h
  have en : ns = n := (nI_eq (by omega) (by omega)).mp (a.symm.trans h0)
  subst en
  refine ⟨ns + 1, nr, e0, e2.trans b, hn, d, ?_⟩
  rw [sm, sm_cg (f := fun k => g (8 + 4 * k + 2)) ns (fun k hk => hs k hk), hz, Int32.add_zero, sm_cg (f := fun k => g (128 + 9 * k + 7) + (if g (128 + 9 * k + 2) < 0 then 0 else 1)) nr (fun k hk => by
    show g' (128 + 9 * k + 7) + (if g' (128 + 9 * k + 2) < 0 then 0 else 1) = _
    rw [(hr k (by omega)).1, (hr k (by omega)).2]), e]
theorem bg_rd {g g' : T1} {n : Nat} (h : lBG g) (h2 : g 2 = nI n) (hn : n < 8) (e2 : g' 2 = nI (n + 1)) (e0 : g' 0 = g 0) (hs : ∀ k, k < 6 → g' (8 + 4 * k + 2) = g (8 + 4 * k + 2)) (hz : g' (128 + 9 * n + 7) = 0) (hz2 : g' (128 + 9 * n + 2) = -4) (hr : ∀ k, k < n → g' (128 + 9 * k + 7) = g (128 + 9 * k + 7) ∧ g' (128 + 9 * k + 2) = g (128 + 9 * k + 2)) : lBG g' := by
  obtain ⟨ns, nr, a, b, c, d, e⟩ := h
  have en : nr = n := (nI_eq (by omega) (by omega)).mp (b.symm.trans h2)
  subst en
  refine ⟨ns, nr + 1, e0.trans a, e2, c, hn, ?_⟩
  rw [sm_cg (f := fun k => g (8 + 4 * k + 2)) ns (fun k hk => hs k (by omega)), sm, sm_cg (f := fun k => g (128 + 9 * k + 7) + (if g (128 + 9 * k + 2) < 0 then 0 else 1)) nr (fun k hk => by
    show g' (128 + 9 * k + 7) + (if g' (128 + 9 * k + 2) < 0 then 0 else 1) = _
    rw [(hr k hk).1, (hr k hk).2]), e]
  show _ = _ + (g' (128 + 9 * nr + 7) + (if g' (128 + 9 * nr + 2) < 0 then 0 else 1))
  rw [hz, hz2]
  exact (Int32.add_zero _).symm
section B3
variable {T : Nat} {G P B D R Q V : T1} {x : T5} {σ : T2}
theorem A_brings0 (hJ : lJ T G P B D R Q V x σ) {y : Nat} (hy : y < 10000000) : ∃ (G' P' B' R' V' : T1) (x' : T5) (σ' : T2), fL_brings G P B D R Q V x 0 (nI y) = some (1, G', P', B', R', V', x') ∧ lJ T G' P' B' D R' Q V' x' σ' := by
  obtain ⟨hRel, hL, hN, hB, t, htt, htT⟩ := id hJ
  obtain ⟨⟨⟨ns, nb, nr, nv, hI⟩, -⟩, -⟩ := id hRel
  obtain ⟨⟨h0, h1, h2, h3, hs6, hb16, hr8, hv2⟩, ⟨tm, h4, ht⟩, ⟨⟨t5, h5, ht5⟩, ⟨t6, h6, ht6, ht6b⟩, ⟨t7, h7, ht7⟩⟩, hpl, hdk, hbc, hrd, hvn, hzS, hzB, hzR, hzV⟩ := id hI
  have ea : nI y - nI y / 100 * 100 = nI (y % 100) := pk_rem (d := 100) (by omega) (by decide) (by decide)
  have eb : nI y / 100 = nI (y / 100) := pk_div (d := 100) (by omega) (by decide) (by decide)
  have ec : nI (y / 100) - nI (y / 100) / 8 * 8 = nI (y / 100 % 8) := pk_rem (d := 8) (by omega) (by decide) (by decide)
  rw [fL_brings, if_pos rfl, ea, eb, ec, lq1, bn_s, ct0, hL.G0, h0]
  by_cases c : ns = 6
  · obtain ⟨x', σ', e1, hJ'⟩ := hJ.e (E_station_f hRel rfl hI (a := y % 100) (d := 1 + y / 100 % 8) (by omega) (by omega) (by omega) c)
    rw [if_pos (by rw [c]; rfl), e1, bd_s]
    exact ⟨G, P, B, R, V, x', σ', (by first | exact if_pos rfl | exact if_pos trivial), hJ'⟩
  · obtain ⟨z1, z2⟩ := hzS ns (Nat.le_refl _) (by omega)
    obtain ⟨x', σ', e1, hJ'⟩ := hJ.of (E_station hRel rfl hI (a := y % 100) (d := 1 + y / 100 % 8) (by omega) (by omega) (by omega) (by omega)) (lr_G (i := 0) (lr_P1 (lr_P0 hL (by omega)) (by omega)) (by decide)) (bg_st hB h0 (by omega) (by simp (disch := omega) only [sU_s]) (by simp (disch := omega) only [sU_n]) (fun k hk => by simp (disch := omega) only [sU_n]) (by simp (disch := omega) only [sU_n]; exact z1) (fun k hk => by constructor <;> simp (disch := omega) only [sU_n])) ⟨t, by simp (disch := omega) only [sU_n]; exact htt, htT⟩
    rw [if_neg (ne_i (x := 6) (b := 6) rfl c (by omega) (by decide))]
    simp (disch := omega) only [bd_s, bn_s, gi_nI, cl_nI, sU_s, sU_n, mu3, mu4, mu5, nI_1, pl2, pl3, pl4, nI_pred, ct0, ct1, ct2, ct3, ct4, e1]
    exact ⟨_, _, B, R, V, x', σ', (by first | exact if_pos rfl | exact if_pos trivial), hJ'⟩
theorem A_brings1 (hJ : lJ T G P B D R Q V x σ) {y : Nat} (hy : y < 10000000) (hz : ¬ G 0 = 0) : ∃ (G' P' B' R' V' : T1) (x' : T5) (σ' : T2), fL_brings G P B D R Q V x 1 (nI y) = some (1, G', P', B', R', V', x') ∧ lJ T G' P' B' D R' Q V' x' σ' := by
  obtain ⟨hRel, hL, hN, hB, t, htt, htT⟩ := id hJ
  obtain ⟨⟨⟨ns, nb, nr, nv, hI⟩, -⟩, -⟩ := id hRel
  obtain ⟨⟨h0, h1, h2, h3, hs6, hb16, hr8, hv2⟩, ⟨tm, h4, ht⟩, ⟨⟨t5, h5, ht5⟩, ⟨t6, h6, ht6, ht6b⟩, ⟨t7, h7, ht7⟩⟩, hpl, hdk, hbc, hrd, hvn, hzS, hzB, hzR, hzV⟩ := id hI
  have hn : 0 < ns := Nat.pos_of_ne_zero (fun e => hz (by rw [hL.G0, h0, e]; rfl))
  have hk : y % ns < ns := Nat.mod_lt _ hn
  rw [fL_brings, if_neg (by decide), if_pos rfl, ct0, hL.G0, h0, nz_s (nI_ne0 hn (by omega)), pk_rem (by omega) hn (by omega), bn_s, L_free hL hI hk, bd_s]
  have bad : ∀ (x' : T5) (r : Int32), fX10_bicycle x (nI (y % ns)) = some (r, x') → r = (if fr (σ 0) nb (y % ns) = 0 then -2 else -3) → fL_brings_133 D Q 1 (nI y) G P B R V x (nI (y % ns)) = some (1, G, P, B, R, V, x') := fun x' r e1 e2 => by
    rw [fL_brings_133, e1, bd_s, L_free hL hI hk, bd_s]
    by_cases cf : fr (σ 0) nb (y % ns) = 0
    · rw [if_pos cf] at e2 ⊢
      exact if_pos e2
    · rw [if_neg cf] at e2 ⊢
      exact if_pos e2
  by_cases cf : fr (σ 0) nb (y % ns) = 0
  · obtain ⟨x', σ', e1, hJ'⟩ := hJ.e (E_bicycle_f hRel rfl hI hk cf)
    rw [if_pos cf]
    exact ⟨G, P, B, R, V, x', σ', bad _ _ e1 (by rw [if_pos cf]), hJ'⟩
  rw [if_neg cf, ct1, hL.G1, h1]
  by_cases c : nb = 16
  · obtain ⟨x', σ', e1, hJ'⟩ := hJ.e (E_bicycle_m hRel rfl hI hk cf c)
    rw [if_pos (by rw [c]; rfl)]
    exact ⟨G, P, B, R, V, x', σ', bad _ _ e1 (by rw [if_neg cf]), hJ'⟩
  · obtain ⟨x', σ', e1, hJ'⟩ := hJ.of (E_bicycle hRel rfl hI hk cf (by omega)) (lr_G (i := 1) (lr_B1 hL (by omega)) (by decide)) (bg_same hB (by simp (disch := omega) only [sU_n]) (by simp (disch := omega) only [sU_n]) (fun k hk => by simp (disch := omega) only [sU_n]) (fun k hk => by constructor <;> simp (disch := omega) only [sU_n])) ⟨t, by simp (disch := omega) only [sU_n]; exact htt, htT⟩
    rw [if_neg (ne_i (x := 16) (b := 16) rfl c (by omega) (by decide))]
    simp (disch := omega) only [bd_s, bn_s, gi_nI, cl_nI, sU_s, sU_n, mu3, mu4, mu5, nI_1, pl2, pl3, pl4, nI_pred, ct0, ct1, ct2, ct3, ct4, e1]
    exact ⟨_, P, _, R, V, x', σ', (by first | exact if_pos rfl | exact if_pos trivial), hJ'⟩
theorem A_brings2 (hJ : lJ T G P B D R Q V x σ) {y : Nat} (hy : y < 10000000) : ∃ (G' P' B' R' V' : T1) (x' : T5) (σ' : T2), fL_brings G P B D R Q V x 2 (nI y) = some (1, G', P', B', R', V', x') ∧ lJ T G' P' B' D R' Q V' x' σ' := by
  obtain ⟨hRel, hL, hN, hB, t, htt, htT⟩ := id hJ
  obtain ⟨⟨⟨ns, nb, nr, nv, hI⟩, -⟩, -⟩ := id hRel
  obtain ⟨⟨h0, h1, h2, h3, hs6, hb16, hr8, hv2⟩, ⟨tm, h4, ht⟩, ⟨⟨t5, h5, ht5⟩, ⟨t6, h6, ht6, ht6b⟩, ⟨t7, h7, ht7⟩⟩, hpl, hdk, hbc, hrd, hvn, hzS, hzB, hzR, hzV⟩ := id hI
  rw [fL_brings, if_neg (by decide), if_neg (by decide), if_pos rfl, ct2, hL.G2, h2]
  by_cases c : nr = 8
  · obtain ⟨x', σ', e1, hJ'⟩ := hJ.e (E_rider_f hRel rfl hI c)
    rw [if_pos (by rw [c]; rfl), e1, bd_s]
    exact ⟨G, P, B, R, V, x', σ', (by first | exact if_pos rfl | exact if_pos trivial), hJ'⟩
  · obtain ⟨q0, q1, q2, q3, q4, q5, q6, q7, q8⟩ := hzR nr (Nat.le_refl _) (by omega)
    obtain ⟨x', σ', e1, hJ'⟩ := hJ.of (E_rider hRel rfl hI (by omega)) (lr_G (i := 2) (lr_R2 hL (by omega)) (by decide)) (bg_rd hB h2 (by omega) (by simp (disch := omega) only [sU_s]) (by simp (disch := omega) only [sU_n]) (fun k hk => by simp (disch := omega) only [sU_n]) (by simp (disch := omega) only [sU_n]; exact q7) (by simp (disch := omega) only [sU_n, sU_s]) (fun k hk => by constructor <;> simp (disch := omega) only [sU_n])) ⟨t, by simp (disch := omega) only [sU_n]; exact htt, htT⟩
    rw [if_neg (ne_i (x := 8) (b := 8) rfl c (by omega) (by decide))]
    simp (disch := omega) only [bd_s, bn_s, gi_nI, cl_nI, sU_s, sU_n, mu3, mu4, mu5, nI_1, pl2, pl3, pl4, nI_pred, ct0, ct1, ct2, ct3, ct4, e1]
    exact ⟨_, P, B, _, V, x', σ', (by first | exact if_pos rfl | exact if_pos trivial), hJ'⟩
theorem A_brings3 (hJ : lJ T G P B D R Q V x σ) {y : Nat} (hy : y < 10000000) (hz : ¬ G 0 = 0) : ∃ (G' P' B' R' V' : T1) (x' : T5) (σ' : T2), fL_brings G P B D R Q V x 3 (nI y) = some (1, G', P', B', R', V', x') ∧ lJ T G' P' B' D R' Q V' x' σ' := by
  obtain ⟨hRel, hL, hN, hB, t, htt, htT⟩ := id hJ
  obtain ⟨⟨⟨ns, nb, nr, nv, hI⟩, -⟩, -⟩ := id hRel
  obtain ⟨⟨h0, h1, h2, h3, hs6, hb16, hr8, hv2⟩, ⟨tm, h4, ht⟩, ⟨⟨t5, h5, ht5⟩, ⟨t6, h6, ht6, ht6b⟩, ⟨t7, h7, ht7⟩⟩, hpl, hdk, hbc, hrd, hvn, hzS, hzB, hzR, hzV⟩ := id hI
  have hn : 0 < ns := Nat.pos_of_ne_zero (fun e => hz (by rw [hL.G0, h0, e]; rfl))
  have hk : y % ns < ns := Nat.mod_lt _ hn
  have eb : nI y / 6 = nI (y / 6) := pk_div (d := 6) (by omega) (by decide) (by decide)
  have ec : nI (y / 6) - nI (y / 6) / 6 * 6 = nI (y / 6 % 6) := pk_rem (d := 6) (by omega) (by decide) (by decide)
  rw [fL_brings, if_neg (by decide), if_neg (by decide), if_neg (by decide), ct0, hL.G0, h0, nz_s (nI_ne0 hn (by omega)), pk_rem (by omega) hn (by omega), bn_s, eb, ec, lq1, bn_s, ct3, hL.G3, h3]
  by_cases c : nv = 2
  · obtain ⟨x', σ', e1, hJ'⟩ := hJ.e (E_van_f hRel rfl hI hk (m := 1 + y / 6 % 6) (by omega) (by omega) c)
    rw [if_pos (by rw [c]; rfl), e1, bd_s]
    exact ⟨G, P, B, R, V, x', σ', (by first | exact if_pos rfl | exact if_pos trivial), hJ'⟩
  · obtain ⟨x', σ', e1, hJ'⟩ := hJ.of (E_van hRel rfl hI hk (m := 1 + y / 6 % 6) (by omega) (by omega) (by omega)) (lr_G (i := 3) (lr_V1 (lr_V0 hL (by omega)) (by omega)) (by decide)) (bg_same hB (by simp (disch := omega) only [sU_n]) (by simp (disch := omega) only [sU_n]) (fun k hk => by simp (disch := omega) only [sU_n]) (fun k hk => by constructor <;> simp (disch := omega) only [sU_n])) ⟨t, by simp (disch := omega) only [sU_n]; exact htt, htT⟩
    rw [if_neg (ne_i (x := 2) (b := 2) rfl c (by omega) (by decide))]
    simp (disch := omega) only [bd_s, bn_s, gi_nI, cl_nI, sU_s, sU_n, mu3, mu4, mu5, nI_1, pl2, pl3, pl4, nI_pred, ct0, ct1, ct2, ct3, ct4, e1]
    exact ⟨_, P, B, R, _, x', σ', (by first | exact if_pos rfl | exact if_pos trivial), hJ'⟩
end B3
