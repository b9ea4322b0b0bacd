/-! MATH 9: the fee, back -/
theorem sub_nn {a b c : Nat} : nI a - nI b - nI c = nI a - nI (b + c) := by
  rw [← nI_add, Int32.sub_eq_add_neg, Int32.sub_eq_add_neg, Int32.sub_eq_add_neg, Int32.neg_add, Int32.add_assoc, Int32.sub_eq_add_neg]
theorem fee_t {tm b f : Nat} (ht : tm ≤ 9000) (hb : b ≤ 9000) (hf : f ≤ 300) : ∃ y, y ≤ 2000 ∧ (if nI tm - nI b - nI f ≤ 0 then 0 else (nI tm - nI b - nI f + 4) / 5) = nI y ∧ ((if 0 < nI tm - nI b - nI f then nI tm - nI b - nI f else 0) + 5 - 1) / 5 = nI y := by
  rw [sub_nn]
  by_cases c : b + f < tm
  · have e : nI tm - nI (b + f) = nI (tm - (b + f)) := pk_sub (by omega)
    refine ⟨(tm - (b + f) + 4) / 5, by omega, ?_, ?_⟩
    · rw [e, if_neg (nI_nle (by omega) (by omega)), show nI (tm - (b + f)) + 4 = nI (tm - (b + f) + 4) from nI_add _ 4, show (5 : Int32) = nI 5 from rfl, pk_div (by omega) (by decide) (by decide)]
    · rw [e, if_pos (by rw [← nI_0]; exact nI_lt (by omega) (by omega)), show nI (tm - (b + f)) + 5 = nI (tm - (b + f) + 4 + 1) from nI_add _ 5, nI_pred, show (5 : Int32) = nI 5 from rfl, pk_div (by omega) (by decide) (by decide)]
  · have e : nI tm - nI (b + f) ≤ 0 := by
      by_cases c2 : tm = b + f
      · rw [c2, Int32.sub_self]
        decide
      · exact Int32.le_of_lt (pk_sneg (by omega) (by omega))
    refine ⟨0, by omega, ?_, ?_⟩
    · rw [if_pos e]; rfl
    · rw [if_neg (Int32.not_lt.mpr e)]; decide
theorem fee_b {p : T3} {g : T1} {ns nb nr nv r : Nat} (hI : IG g ns nb nr nv) (hR : RR p g) (hr : r < nr) (h : ¬ rdN g r = 0) : ∃ F, F ≤ 3000 ∧ fX4_fee (p 2) (nI r) (g 4) = some (nI F) ∧ ∀ σ : T2, σ 0 = g → fX11_fee σ (nI r) = some (nI F) := by
  obtain ⟨⟨h0, h1, h2, h3, hs6, hb16, hr8, hv2⟩, ⟨tm, h4, ht⟩, ⟨⟨t5, h5, ht5⟩, ⟨t6, h6, ht6, ht6b⟩, ⟨t7, h7, ht7⟩⟩, hpl, hdk, hbc, hrd, hvn, hzS, hzB, hzR, hzV⟩ := id hI
  obtain ⟨⟨a0, a1, a2, a3, a4, a5⟩, ⟨s0, s1, s2, s3⟩, ⟨b0, b1, b2, b3, b4, b5⟩, ⟨r0, r1, r2, r3, r4, r5, r6, r7, r8⟩, ⟨v0, v1, v2⟩⟩ := id hR
  obtain ⟨q1, q2, ⟨b, hb, hb2⟩, ⟨m, f, hm, hm2, hf, hf2⟩, q5⟩ := id (hrd r hr)
  have hpc := pc_le m hm2
  obtain ⟨y, hy, y1, y2⟩ := fee_t ht hb2 (show f ≤ 300 by omega)
  have hgr : p 2 7 r = 1 - g (128 + 9 * r + 5) := by
    rcases r7 r (by omega) with q | q | q
    · rw [r4 r (by omega)] at q
      exact absurd ((mp_m1 hb16 q1).mp q) (rdN_1.mp h)
    · exact q
    · rw [h2, nI_leI (by omega) (by omega)] at q
      omega
  obtain ⟨F, hF, hF2⟩ : ∃ F, F ≤ 3000 ∧ nI y + (1 - g (128 + 9 * r + 5)) = nI F := by
    rcases q5 with q | q
    · exact ⟨y + 1, by omega, by rw [q]; exact nI_add y 1⟩
    · exact ⟨y, by omega, by rw [q]; exact nI_add y 0⟩
  refine ⟨F, hF, ?_, fun σ hσ => ?_⟩
  · rw [fX4_fee, X_hasRide hI hR hr, bd_s, if_neg h, fX4_rideMinutes, X4_has hI hR, hs_t hr (by omega), bd_s, if_neg ne10, gi_nI (by omega) (by decide), cl_nI (by omega), bd_s, r5 r (by omega), r6 r (by omega), hb, hf, h4]
    simp only [bn_s]
    rw [gi_nI (by omega) (by decide), gi_nI (by omega) (by decide), y2, hgr, hF2]
  · rw [fX11_fee, M_ofR3 (by omega), bd_s, M_ofR4 (by omega), bd_s, ct4, hσ, hb, hf, h4]
    simp only [bn_s]
    have e : ∀ t, fX11_fee_34 σ (nI r) t = some (t + (1 - g (128 + 9 * r + 5))) := fun t => by
      rw [fX11_fee_34, M_ofR5 (by omega), bd_s, hσ, Int32.sub_eq_add_neg, Int32.sub_eq_add_neg, Int32.add_assoc]
    rw [e, e, ← hF2, ← y1]
    split <;> rfl
set_option maxHeartbeats 8000000 in
theorem op_back {p : T3} {g : T1} (hI : OK g) (hR : RR p g) (p1 p2 : Int32) : OPR g (fX5_endRide p p1 p2) (fun σ => fX11_back σ p1 p2) := by
  obtain ⟨ns, nb, nr, nv, hI⟩ := hI
  obtain ⟨⟨h0, h1, h2, h3, hs6, hb16, hr8, hv2⟩, ⟨tm, h4, ht⟩, ⟨⟨t5, h5, ht5⟩, ⟨t6, h6, ht6, ht6b⟩, ⟨t7, h7, ht7⟩⟩, hpl, hdk, hbc, hrd, hvn, hzS, hzB, hzR, hzV⟩ := id hI
  obtain ⟨⟨a0, a1, a2, a3, a4, a5⟩, ⟨s0, s1, s2, s3⟩, ⟨b0, b1, b2, b3, b4, b5⟩, ⟨r0, r1, r2, r3, r4, r5, r6, r7, r8⟩, ⟨v0, v1, v2⟩⟩ := id hR
  by_cases hr : inN p1 nr
  case neg =>
    refine opr_e (-1) (by decide) (p' := p) ?_ (fun σ σc hσ _ => ?_)
    · rw [fX5_endRide, X4_has hI hR, hs_f hr (by omega), bd_s, if_pos rfl]
    · rw [fX11_back, M_isRider (by rw [hσ]; exact h2), hs_f hr (by omega), bd_s, if_pos rfl]
  obtain ⟨r, hr, rfl⟩ := hr
  have Xr : fX4_has (p 2) (nI r) = some 1 := by rw [X4_has hI hR, hs_t hr (by omega)]
  have Mr : ∀ σ : T2, σ 0 = g → fX11_isRider σ (nI r) = some 1 := fun σ hσ => by rw [M_isRider (by rw [hσ]; exact h2), hs_t hr (by omega)]
  by_cases hk : inN p2 ns
  case neg =>
    refine opr_e (-1) (by decide) (p' := p) ?_ (fun σ σc hσ _ => ?_)
    · rw [fX5_endRide, Xr, bd_s, if_neg ne10, X6_has hI hR, hs_f hk (by omega), bd_s, if_pos rfl]
    · rw [fX11_back, Mr σ hσ, bd_s, if_neg ne10, M_isStation (by rw [hσ]; exact h0), hs_f hk (by omega), bd_s, if_pos rfl]
  obtain ⟨k, hk, rfl⟩ := hk
  have Xk : fX6_has (p 0) (nI k) = some 1 := by rw [X6_has hI hR, hs_t hk (by omega)]
  have Mk : ∀ σ : T2, σ 0 = g → fX11_isStation σ (nI k) = some 1 := fun σ hσ => by rw [M_isStation (by rw [hσ]; exact h0), hs_t hk (by omega)]
  have M1 : ∀ σ : T2, σ 0 = g → fX11_isFree σ (nI k) = some (fr g nb k) := fun σ hσ => by rw [M_free (ns := ns) (nb := nb) (nr := nr) (nv := nv) (by rw [hσ]; exact hI) hk, hσ]
  have M2 : ∀ σ : T2, σ 0 = g → fX11_rides σ (nI r) = some (rdN g r) := fun σ hσ => by rw [M_rides (nb := nb) (by omega) (by rw [hσ]; exact hrd r hr) hb16, hσ]
  obtain ⟨q1, q2, q3, q4, q5⟩ := id (hrd r hr)
  by_cases c1 : rdN g r = 0
  · have e : g (128 + 9 * r + 2) = -4 := by
      by_cases e : g (128 + 9 * r + 2) = -4
      · exact e
      · exact absurd c1 (rdN_1.mpr e)
    refine opr_e (-2) (by decide) (p' := p) ?_ (fun σ σc hσ _ => ?_)
    · rw [fX5_endRide, Xr, bd_s, if_neg ne10, Xk, bd_s, if_neg ne10, gi_nI (by omega) (by decide), cl_nI (by omega), r4 r (by omega), e, X1_has hI hR, show hs (mp (-4)) nb = some 0 by unfold hs; rw [if_pos (by decide)], bd_s, if_pos rfl]
    · rw [fX11_back, Mr σ hσ, bd_s, if_neg ne10, Mk σ hσ, bd_s, if_neg ne10, M2 σ hσ, bd_s, if_pos c1]
  obtain ⟨b, hb, eb⟩ : ∃ b, b < nb ∧ g (128 + 9 * r + 2) = nI b := by
    rcases q1 with q | q
    · exact absurd q (rdN_1.mp c1)
    · exact q
  have eb2 : p 2 4 r = nI b := by rw [r4 r (by omega)]; exact (mp_nI (by omega)).mpr eb
  have Xb : fX1_has (p 1) (nI b) = some 1 := by rw [X1_has hI hR, hs_t hb (by omega)]
  by_cases c2 : fr g nb k = 0
  · refine opr_e (-2) (by decide) (p' := p) ?_ (fun σ σc hσ _ => ?_)
    · rw [fX5_endRide, Xr, bd_s, if_neg ne10, Xk, bd_s, if_neg ne10, gi_nI (by omega) (by decide), cl_nI (by omega), eb2, Xb, bd_s, if_neg ne10, X_free hI hR hk, bd_s, if_pos c2]
    · rw [fX11_back, Mr σ hσ, bd_s, if_neg ne10, Mk σ hσ, bd_s, if_neg ne10, M2 σ hσ, bd_s, if_neg c1, M1 σ hσ, bd_s, if_pos c2]
  obtain ⟨d, d1, d2, d3, d4⟩ := fr_1 hI hk c2
  obtain ⟨F, hF, F1, F2⟩ := fee_b hI hR hr c1
  refine opr_o (nI F) (sU (sU (sU (sU (sU (sU (sU (sU g (32 + 6 * b) 0) (32 + 6 * b + 1) (nI k)) (32 + 6 * b + 2) (g (32 + 6 * b + 2) + (nI tm - g (128 + 9 * r + 3)))) (32 + 6 * b + 4) (g (32 + 6 * b + 4) + 1)) (128 + 9 * r + 2) (-4)) (128 + 9 * r) (g (128 + 9 * r) + nI F)) (128 + 9 * r + 7) (g (128 + 9 * r + 7) + 1)) (8 + 4 * k + 3) (g (8 + 4 * k + 3) + 1)) (nI_pos (by omega)) (p' := sU (sU (sU p 1 (sU (sU (sU (sU (p 1) 2 (sU (p 1 2) b (g (32 + 6 * b + 2) + (nI tm - g (128 + 9 * r + 3))))) 4 (sU (p 1 4) b (g (32 + 6 * b + 4) + 1))) 0 (sU (p 1 0) b 0)) 1 (sU (p 1 1) b (nI k)))) 2 (sU (sU (sU (p 2) 0 (sU (p 2 0) r (g (128 + 9 * r) + nI F))) 3 (sU (p 2 3) r (g (128 + 9 * r + 7) + 1))) 4 (sU (p 2 4) r (-1)))) 0 (sU (p 0) 3 (sU (p 0 3) k (g (8 + 4 * k + 3) + 1)))) ?_ (fun σ σc hσ hC => ?_) ⟨ns, nb, nr, nv, ?_⟩ ?_
  · rw [fX5_endRide, Xr, bd_s, if_neg ne10, Xk, bd_s, if_neg ne10, gi_nI (by omega) (by decide), cl_nI (by omega), eb2, Xb, bd_s, if_neg ne10, X_free hI hR hk, bd_s, if_neg c2, a4, F1, bd_s, cl_nI (by omega), fX4_rideMinutes, Xr]
    simp (disch := omega) only [bd_s, bn_s, gi_nI, cl_nI, sU_s, sU_n, sU_sU, nI_1, nI_pred, i10, i00, ite_true, ite_false, X_bringB (B := sU (sU (p 1) 2 (sU (p 1 2) b (p 1 2 b + (g 4 - p 2 5 r)))) 4 (sU (p 1 4) b (p 1 4 b + 1))) (nb := nb) (b := b) (x := 0) (y := nI k) (by simp (disch := omega) only [sU_n]; exact a1.trans h1) hb16 hb]
    rw [b2 b (by omega), b4 b (by omega), r0 r (by omega), r3 r (by omega), r5 r (by omega), s3 k (by omega), h4]
  · obtain ⟨hc1, hc2⟩ := hC
    rw [fX11_back, Mr σ hσ, bd_s, if_neg ne10, Mk σ hσ, bd_s, if_neg ne10, M2 σ hσ, bd_s, if_neg c1, M1 σ hσ, bd_s, if_neg c2, hc1, bd_s, F2 σc (hc2.trans hσ), bd_s, ixR2, gi_nI (by omega) (by decide), cl_nI (by omega), hc2, hσ, eb, bn_s, M_puts (by omega), bd_s]
    simp (disch := omega) only [bd_s, bn_s, gi_nI, cl_nI, sU_s, sU_n, sU_sU, nI_1, nI_pred, ixR0, ixR2, ixR3, ixR7, ixB2, ixB4, ixS3, ct4, hc2, hσ, h4]
  · have hI1 : IG (sU (sU g (32 + 6 * b) 0) (32 + 6 * b + 1) (nI k)) ns nb nr nv := IG_puts hI hb (Or.inl ⟨rfl, k, hk, rfl, d, d1, d4, d3⟩)
    have hI2 : IG (sU (sU (sU (sU g (32 + 6 * b) 0) (32 + 6 * b + 1) (nI k)) (32 + 6 * b + 2) (g (32 + 6 * b + 2) + (nI tm - g (128 + 9 * r + 3)))) (32 + 6 * b + 4) (g (32 + 6 * b + 4) + 1)) ns nb nr nv := IG_free (IG_free hI1 (by omega) (by intros; omega) (by intros; omega) (by intros; omega) (by intros; omega)) (by omega) (by intros; omega) (by intros; omega) (by intros; omega) (by intros; omega)
    have hI3 : IG (sU (sU (sU (sU (sU (sU (sU g (32 + 6 * b) 0) (32 + 6 * b + 1) (nI k)) (32 + 6 * b + 2) (g (32 + 6 * b + 2) + (nI tm - g (128 + 9 * r + 3)))) (32 + 6 * b + 4) (g (32 + 6 * b + 4) + 1)) (128 + 9 * r + 2) (-4)) (128 + 9 * r) (g (128 + 9 * r) + nI F)) (128 + 9 * r + 7) (g (128 + 9 * r + 7) + 1)) ns nb nr nv := by
      refine IG_rid hI2 hr (fun i hi => by simp (disch := omega) only [sU_n, sU_s]) ?_
      unfold RD
      simp (disch := omega) only [sU_n, sU_s]
      exact ⟨Or.inl (by trivial), q2, q3, q4, q5⟩
    exact IG_free hI3 (by omega) (by intros; omega) (by intros; omega) (by intros; omega) (by intros; omega)
  · exact ⟨⟨(by (try simp (disch := omega) only [sU_n, sU_s]); exact a0), (by (try simp (disch := omega) only [sU_n, sU_s]); exact a1), (by (try simp (disch := omega) only [sU_n, sU_s]); exact a2), (by (try simp (disch := omega) only [sU_n, sU_s]); exact a3), (by (try simp (disch := omega) only [sU_n, sU_s]); exact a4), (fun i hi => by (try simp (disch := omega) only [sU_n, sU_s]); exact a5 i hi)⟩, ⟨(fun k9 hk9 => by
    by_cases e : k9 = k
    · subst e
      (try simp (disch := omega) only [sU_n, sU_s])
      all_goals (first | rfl | exact s0 _ hk9)
    · (try simp (disch := omega) only [sU_n, sU_s])
      exact s0 k9 hk9), (fun k9 hk9 => by
    by_cases e : k9 = k
    · subst e
      (try simp (disch := omega) only [sU_n, sU_s])
      all_goals (first | rfl | exact s1 _ hk9)
    · (try simp (disch := omega) only [sU_n, sU_s])
      exact s1 k9 hk9), (fun k9 hk9 => by
    by_cases e : k9 = k
    · subst e
      (try simp (disch := omega) only [sU_n, sU_s])
      all_goals (first | rfl | exact s2 _ hk9)
    · (try simp (disch := omega) only [sU_n, sU_s])
      exact s2 k9 hk9), (fun k9 hk9 => by
    by_cases e : k9 = k
    · subst e
      (try simp (disch := omega) only [sU_n, sU_s])
      all_goals (first | rfl | exact s3 _ hk9)
    · (try simp (disch := omega) only [sU_n, sU_s])
      exact s3 k9 hk9)⟩, ⟨(fun k9 hk9 => by
    by_cases e : k9 = b
    · subst e
      (try simp (disch := omega) only [sU_n, sU_s])
      all_goals (first | rfl | exact b0 _ hk9)
    · (try simp (disch := omega) only [sU_n, sU_s])
      exact b0 k9 hk9), (fun k9 hk9 => by
    by_cases e : k9 = b
    · subst e
      (try simp (disch := omega) only [sU_n, sU_s])
      all_goals (exact ((mp_nI (by omega)).mpr rfl).symm)
    · (try simp (disch := omega) only [sU_n, sU_s])
      exact b1 k9 hk9), (fun k9 hk9 => by
    by_cases e : k9 = b
    · subst e
      (try simp (disch := omega) only [sU_n, sU_s])
      all_goals (first | rfl | exact b2 _ hk9)
    · (try simp (disch := omega) only [sU_n, sU_s])
      exact b2 k9 hk9), (fun k9 hk9 => by
    by_cases e : k9 = b
    · subst e
      (try simp (disch := omega) only [sU_n, sU_s])
      all_goals (first | rfl | exact b3 _ hk9)
    · (try simp (disch := omega) only [sU_n, sU_s])
      exact b3 k9 hk9), (fun k9 hk9 => by
    by_cases e : k9 = b
    · subst e
      (try simp (disch := omega) only [sU_n, sU_s])
      all_goals (first | rfl | exact b4 _ hk9)
    · (try simp (disch := omega) only [sU_n, sU_s])
      exact b4 k9 hk9), (fun k9 hk9 => by
    by_cases e : k9 = b
    · subst e
      (try simp (disch := omega) only [sU_n, sU_s])
      all_goals (first | rfl | exact b5 _ hk9)
    · (try simp (disch := omega) only [sU_n, sU_s])
      exact b5 k9 hk9)⟩, ⟨(fun k9 hk9 => by
    by_cases e : k9 = r
    · subst e
      (try simp (disch := omega) only [sU_n, sU_s])
      all_goals (first | rfl | exact r0 _ hk9)
    · (try simp (disch := omega) only [sU_n, sU_s])
      exact r0 k9 hk9), (fun k9 hk9 => by
    by_cases e : k9 = r
    · subst e
      (try simp (disch := omega) only [sU_n, sU_s])
      all_goals (first | rfl | exact r1 _ hk9)
    · (try simp (disch := omega) only [sU_n, sU_s])
      exact r1 k9 hk9), (fun k9 hk9 => by
    by_cases e : k9 = r
    · subst e
      (try simp (disch := omega) only [sU_n, sU_s])
      all_goals (first | rfl | exact r2 _ hk9)
    · (try simp (disch := omega) only [sU_n, sU_s])
      exact r2 k9 hk9), (fun k9 hk9 => by
    by_cases e : k9 = r
    · subst e
      (try simp (disch := omega) only [sU_n, sU_s])
      all_goals (first | rfl | exact r3 _ hk9)
    · (try simp (disch := omega) only [sU_n, sU_s])
      exact r3 k9 hk9), (fun k9 hk9 => by
    by_cases e : k9 = r
    · subst e
      (try simp (disch := omega) only [sU_n, sU_s])
      all_goals (first | rfl | exact r4 _ hk9)
    · (try simp (disch := omega) only [sU_n, sU_s])
      exact r4 k9 hk9), (fun k9 hk9 => by
    by_cases e : k9 = r
    · subst e
      (try simp (disch := omega) only [sU_n, sU_s])
      all_goals (first | rfl | exact r5 _ hk9)
    · (try simp (disch := omega) only [sU_n, sU_s])
      exact r5 k9 hk9), (fun k9 hk9 => by
    by_cases e : k9 = r
    · subst e
      (try simp (disch := omega) only [sU_n, sU_s])
      all_goals (first | rfl | exact r6 _ hk9)
    · (try simp (disch := omega) only [sU_n, sU_s])
      exact r6 k9 hk9), (fun i hi => by
      by_cases e : i = r
      · subst e
        (try simp (disch := omega) only [sU_n, sU_s])
        exact Or.inl (by trivial)
      · (try simp (disch := omega) only [sU_n, sU_s])
        exact r7 i hi), (fun k9 hk9 => by
    by_cases e : k9 = r
    · subst e
      (try simp (disch := omega) only [sU_n, sU_s])
      all_goals (first | rfl | exact r8 _ hk9)
    · (try simp (disch := omega) only [sU_n, sU_s])
      exact r8 k9 hk9)⟩, ⟨(fun k9 hk9 => by (try simp (disch := omega) only [sU_n, sU_s]); exact v0 k9 hk9), (fun k9 hk9 => by (try simp (disch := omega) only [sU_n, sU_s]); exact v1 k9 hk9), (fun k9 hk9 => by (try simp (disch := omega) only [sU_n, sU_s]); exact v2 k9 hk9)⟩⟩
