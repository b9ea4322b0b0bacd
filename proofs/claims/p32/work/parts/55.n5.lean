/-! LAW 5: rides: back, full -/
theorem bg_back {g g' : T1} {r : Nat} (h : lBG g) (h2 : ∃ n, g 2 = nI n ∧ n ≤ 8 ∧ r < n) (e0 : g' 0 = g 0) (e2 : g' 2 = g 2) (hs : ∀ j, j < 6 → g' (8 + 4 * j + 2) = g (8 + 4 * j + 2)) (hr : ∀ j, j < 8 → j ≠ r → g' (128 + 9 * j + 7) = g (128 + 9 * j + 7) ∧ g' (128 + 9 * j + 2) = g (128 + 9 * j + 2)) (hr7 : g' (128 + 9 * r + 7) = g (128 + 9 * r + 7) + 1) (hr2 : ¬ g (128 + 9 * r + 2) < 0) (hr3 : g' (128 + 9 * r + 2) < 0) : lBG g' := by
  obtain ⟨ns, nr, a, b, c, d, e⟩ := h
  obtain ⟨n2, f4, f5, f6⟩ := h2
  have en2 : n2 = nr := (nI_eq (by omega) (by omega)).mp (f4.symm.trans b)
  subst en2
  refine ⟨ns, n2, e0.trans a, e2.trans b, c, d, ?_⟩
  rw [sm_cg (f := fun k => g (8 + 4 * k + 2)) ns (fun j hj => hs j (by omega)), e]
  refine (sm_cg n2 (fun j hj => ?_)).symm
  show g' (128 + 9 * j + 7) + (if g' (128 + 9 * j + 2) < 0 then 0 else 1) = g (128 + 9 * j + 7) + (if g (128 + 9 * j + 2) < 0 then 0 else 1)
  by_cases q : j = r
  · subst q
    rw [hr7, if_pos hr3, if_neg hr2, Int32.add_zero]
  · rw [(hr j (by omega) q).1, (hr j (by omega) q).2]
theorem told_a : ∀ m, m < 64 → ∀ s, s < 6 → ¬ ((nI m >>> (nI s &&& 31)) &&& 1 = 1) → nI m + ((1 : Int32) <<< (nI s &&& 31)) = nI (m + 2 ^ s) := by decide +kernel
section B5
variable {T : Nat} {G P B D R Q V : T1} {x : T5} {σ : T2}
set_option maxHeartbeats 4000000 in
theorem A_rides2 (hJ : lJ T G P B D R Q V x σ) {y : Nat} (hy : y < 10000000) (hz0 : ¬ G 0 = 0) (hz2 : ¬ G 2 = 0) : ∃ (P' B' D' R' Q' : T1) (x' : T5) (σ' : T2), fL_rides G P B D R Q x 2 (nI y) = some (1, P', B', D', R', Q', x') ∧ lJ T G P' B' D' R' Q' V x' σ' := by
  obtain ⟨hRel, hL, hN, hB, t, htt, htT⟩ := id hJ
  obtain ⟨⟨⟨ns, nb, nr, nv, hI⟩, -⟩, -⟩ := id hRel
  obtain ⟨⟨h0, h1, h2, h3, hs6, hb16, hr8, hv2⟩, ⟨tm, h4, ht⟩, ⟨⟨t5, h5, ht5⟩, ⟨t6, h6, ht6, ht6b⟩, ⟨t7, h7, ht7⟩⟩, hpl, hdk, hbc, hrd, hvn, hzS, hzB, hzR, hzV⟩ := id hI
  have hn : 0 < ns := Nat.pos_of_ne_zero (fun e => hz0 (by rw [hL.G0, h0, e]; rfl))
  have hn2 : 0 < nr := Nat.pos_of_ne_zero (fun e => hz2 (by rw [hL.G2, h2, e]; rfl))
  have eb : nI y / 8 = nI (y / 8) := pk_div (d := 8) (by omega) (by decide) (by decide)
  obtain ⟨r, hr, er⟩ : ∃ r, r < nr ∧ y % nr = r := ⟨_, Nat.mod_lt _ hn2, rfl⟩
  obtain ⟨k, hk, ek⟩ : ∃ k, k < ns ∧ y / 8 % ns = k := ⟨_, Nat.mod_lt _ hn, rfl⟩
  obtain ⟨q1, q2⟩ := id (hrd r hr)
  rw [fL_rides, ct2, hL.G2, h2, nz_s (nI_ne0 hn2 (by omega)), pk_rem (by omega) hn2 (by omega), er, bn_s, ct0, hL.G0, h0, nz_s (nI_ne0 hn (by omega)), eb, pk_rem (by omega) hn (by omega), ek, bn_s, mu5, pl2, gi_nI (by omega) (by decide), if_neg (by decide), if_neg (by decide), if_pos rfl, cl_nI (by omega), hL.R2 (by omega)]
  have bad : ∀ x', fX10_back x (nI r) (nI k) = some (-2, x') → fL_rides_444 G 2 (nI y) P B D R Q x (nI r) (nI k) = some (1, P, B, D, R, Q, x') := fun x' e => by
    rw [fL_rides_444, e, bd_s]
    exact if_pos rfl
  by_cases c1 : rdN (σ 0) r = 0
  · obtain ⟨x', σ', e1, hJ'⟩ := hJ.e (E_back_f hRel rfl hI hr hk (Or.inl c1))
    have e4 : σ 0 (128 + 9 * r + 2) = -4 := by
      by_cases e : σ 0 (128 + 9 * r + 2) = -4
      · exact e
      · exact absurd c1 (rdN_1.mpr e)
    rw [if_pos (by rw [e4]; decide)]
    exact ⟨P, B, D, R, Q, x', σ', bad _ e1, hJ'⟩
  obtain ⟨b, hb, ebb⟩ : ∃ b, b < nb ∧ σ 0 (128 + 9 * r + 2) = nI b := by
    rcases q1 with q | q
    · exact absurd q (rdN_1.mp c1)
    · exact q
  have hlt : ¬ σ 0 (128 + 9 * r + 2) < 0 := by rw [ebb]; exact nI_pos (by omega)
  rw [if_neg hlt, L_free hL hI hk, bd_s]
  by_cases c2 : fr (σ 0) nb k = 0
  · obtain ⟨x', σ', e1, hJ'⟩ := hJ.e (E_back_f hRel rfl hI hr hk (Or.inr c2))
    rw [if_pos c2]
    exact ⟨P, B, D, R, Q, x', σ', bad _ e1, hJ'⟩
  obtain ⟨F, hF, -, F2⟩ := fee_b hI hRel.1.2 hr c1
  obtain ⟨x', σ', e1, hJ'⟩ := hJ.of (E_back hRel rfl hI hr hk c1 c2 hb ebb h4 F2) (lr_P3 (lr_Q2 (lr_R0 (lr_R2 (lr_D1 (lr_B2 (lr_B1 (lr_B0 hL (by omega)) (by omega)) (by omega)) (by omega)) (by omega)) (by omega)) (by omega)) (by omega)) (bg_back (r := r) hB ⟨nr, h2, hr8, hr⟩ (by simp (disch := omega) only [sU_n]) (by simp (disch := omega) only [sU_n]) (fun j hj => by simp (disch := omega) only [sU_n]) (fun j hj hne => by constructor <;> simp (disch := omega) only [sU_n]) (by simp (disch := omega) only [sU_n, sU_s]) hlt (by simp (disch := omega) only [sU_n, sU_s]; decide)) ⟨t, by simp (disch := omega) only [sU_n]; exact htt, htT⟩
  rw [if_neg c2, L_fee hL hI hr F2, bd_s, ebb]
  simp (disch := omega) only [bd_s, bn_s, gi_nI, cl_nI, sU_s, sU_n, mu3, mu4, mu5, nI_1, pl2, pl3, pl4, nI_pred, ct0, ct1, ct2, ct3, ct4, hL.G4, h4, hL.R3 (show r < 8 by omega), hL.R0 (show r < 8 by omega), hL.B2 (show b < 16 by omega), hL.D1 (show b < 16 by omega), hL.Q2 (show r < 8 by omega), hL.P3 (show k < 6 by omega), e1]
  refine ⟨_, _, _, _, _, x', σ', ?_, hJ'⟩
  rw [sU_cm (i := 5 * r) (j := 5 * r + 2) (by omega)]
  first | exact if_pos rfl | exact if_pos trivial
set_option maxHeartbeats 4000000 in
theorem A_rides3 (hJ : lJ T G P B D R Q V x σ) {y : Nat} (hy : y < 10000000) (hz0 : ¬ G 0 = 0) (hz2 : ¬ G 2 = 0) : ∃ (P' B' D' R' Q' : T1) (x' : T5) (σ' : T2), fL_rides G P B D R Q x 3 (nI y) = some (1, P', B', D', R', Q', x') ∧ lJ T G P' B' D' R' Q' V x' σ' := by
  obtain ⟨hRel, hL, hN, hB, t, htt, htT⟩ := id hJ
  obtain ⟨⟨⟨ns, nb, nr, nv, hI⟩, -⟩, -⟩ := id hRel
  obtain ⟨⟨h0, h1, h2, h3, hs6, hb16, hr8, hv2⟩, ⟨tm, h4, ht⟩, ⟨⟨t5, h5, ht5⟩, ⟨t6, h6, ht6, ht6b⟩, ⟨t7, h7, ht7⟩⟩, hpl, hdk, hbc, hrd, hvn, hzS, hzB, hzR, hzV⟩ := id hI
  have hn : 0 < ns := Nat.pos_of_ne_zero (fun e => hz0 (by rw [hL.G0, h0, e]; rfl))
  have hn2 : 0 < nr := Nat.pos_of_ne_zero (fun e => hz2 (by rw [hL.G2, h2, e]; rfl))
  have eb : nI y / 8 = nI (y / 8) := pk_div (d := 8) (by omega) (by decide) (by decide)
  obtain ⟨r, hr, er⟩ : ∃ r, r < nr ∧ y % nr = r := ⟨_, Nat.mod_lt _ hn2, rfl⟩
  obtain ⟨k, hk, ek⟩ : ∃ k, k < ns ∧ y / 8 % ns = k := ⟨_, Nat.mod_lt _ hn, rfl⟩
  obtain ⟨q1, q2, q3, ⟨m, f, hm, hm2, hf, hf2⟩, q5⟩ := id (hrd r hr)
  rw [fL_rides, ct2, hL.G2, h2, nz_s (nI_ne0 hn2 (by omega)), pk_rem (by omega) hn2 (by omega), er, bn_s, ct0, hL.G0, h0, nz_s (nI_ne0 hn (by omega)), eb, pk_rem (by omega) hn (by omega), ek, bn_s, mu5, pl2, gi_nI (by omega) (by decide), if_neg (by decide), if_neg (by decide), if_neg (by decide), cl_nI (by omega), hL.R2 (by omega)]
  have bad : ∀ x', fX10_full x (nI r) (nI k) = some (-2, x') → fL_rides_630 G 3 (nI y) P B D R Q x (nI r) (nI k) = some (1, P, B, D, R, Q, x') := fun x' e => by
    rw [fL_rides_630, e, bd_s]
    exact if_pos rfl
  by_cases c1 : rdN (σ 0) r = 0
  · obtain ⟨x', σ', e1, hJ'⟩ := hJ.e (E_full_f hRel rfl hI hr hk hm (Or.inl c1))
    have e4 : σ 0 (128 + 9 * r + 2) = -4 := by
      by_cases e : σ 0 (128 + 9 * r + 2) = -4
      · exact e
      · exact absurd c1 (rdN_1.mpr e)
    rw [if_pos (by rw [e4]; decide)]
    exact ⟨P, B, D, R, Q, x', σ', bad _ e1, hJ'⟩
  obtain ⟨b, hb, ebb⟩ : ∃ b, b < nb ∧ σ 0 (128 + 9 * r + 2) = nI b := by
    rcases q1 with q | q
    · exact absurd q (rdN_1.mp c1)
    · exact q
  have hlt : ¬ σ 0 (128 + 9 * r + 2) < 0 := by rw [ebb]; exact nI_pos (by omega)
  rw [if_neg hlt, L_free hL hI hk, bd_s]
  by_cases c2 : fr (σ 0) nb k = 0
  case neg =>
    obtain ⟨x', σ', e1, hJ'⟩ := hJ.e (E_full_f hRel rfl hI hr hk hm (Or.inr (Or.inl c2)))
    rw [if_neg c2]
    exact ⟨P, B, D, R, Q, x', σ', bad _ e1, hJ'⟩
  rw [if_pos c2, mu4, nI_1, gi_nI (by omega) (by decide), cl_nI (by omega), hL.Q1 (by omega), hm]
  by_cases c3 : (nI m >>> (nI k &&& 31)) &&& 1 = 1
  · obtain ⟨x', σ', e1, hJ'⟩ := hJ.e (E_full_f hRel rfl hI hr hk hm (Or.inr (Or.inr c3)))
    rw [if_pos c3]
    exact ⟨P, B, D, R, Q, x', σ', bad _ e1, hJ'⟩
  have efr : (nI f : Int32) + 15 = nI (f + 15) := nI_add f 15
  obtain ⟨x', σ', e1, hJ'⟩ := hJ.of (E_full hRel rfl hI hr hk c1 c2 hm c3 ((told_t m hm2 k (by omega)).2 c3).1 hf) (lr_R4 (lr_Q1 hL (by omega)) (by omega)) (bg_same hB (by simp (disch := omega) only [sU_n]) (by simp (disch := omega) only [sU_n]) (fun k hk => by simp (disch := omega) only [sU_n]) (fun k hk => by constructor <;> simp (disch := omega) only [sU_n])) ⟨t, by simp (disch := omega) only [sU_n]; exact htt, htT⟩
  rw [if_neg c3]
  simp (disch := omega) only [bd_s, bn_s, gi_nI, cl_nI, sU_s, sU_n, mu3, mu4, mu5, nI_1, pl2, pl3, pl4, nI_pred, ct0, ct1, ct2, ct3, ct4, told_a m hm2 k (show k < 6 by omega) c3, hL.R4 (show r < 8 by omega), hf, efr, e1]
  exact ⟨P, B, D, _, _, x', σ', (by first | exact if_pos rfl | exact if_pos trivial), hJ'⟩
end B5
