/-! MATH 4: the changes: rider, van, bicycle -/
theorem M_puts {σ : T2} {k : Nat} {a b : Int32} (hk : k < 16) : fX11_puts σ (nI k) a b = some (sU σ 0 (sU (sU (σ 0) (32 + 6 * k) a) (32 + 6 * k + 1) b)) := by
  unfold fX11_puts
  simp (disch := omega) only [bd_s, bn_s, gi_nI, cl_nI, sU_s, sU_n, sU_sU, nI_1, nI_pred, ixB0, ixB1]
theorem su0 {f : T1} {i : Nat} (h : f i = 0) : sU f i 0 = f := by
  have := sU_id (f := f) (i := i)
  rw [h] at this
  exact this
theorem opr_x {g : T1} {X Y : Option (Int32 × T3)} {M N : T2 → Option (Int32 × T2)} (h : OPR g Y N) (h1 : X = Y) (h2 : ∀ σ, M σ = N σ) : OPR g X M := by
  obtain ⟨r, p', g', a, b, c⟩ := h
  exact ⟨r, p', g', h1.trans a, fun σ σc h3 h4 => (h2 σ).trans (b σ σc h3 h4), c⟩
theorem M_rider_lp {σ : T2} {k : Nat} (hk : k < 8) (hz : ∀ w, w < 9 → σ 0 (128 + 9 * k + w) = 0) : ∀ (n j : Nat), j ≤ 9 → 9 - j < n → fX11_rider_22 n σ (nI k) (nI j) = some (nI k, sU σ 0 (sU (sU (σ 0) (128 + 9 * k + 2) (-4)) 2 (σ 0 2 + 1))) := by
  intro n
  induction n with
  | zero => intro j h1 h2; omega
  | succ n ih =>
    intro j h1 h2
    rw [fX11_rider_22]
    by_cases hj : j = 9
    · subst hj
      rw [if_pos (by decide)]
      simp (disch := omega) only [bd_s, bn_s, gi_nI, cl_nI, sU_s, sU_n, sU_sU, nI_1, nI_pred, ixR2, ct2]
    · rw [if_neg (fun q => hj (by
        have := (nI_leI (a := 9) (b := j) (by omega) (by omega)).mp q
        omega))]
      rw [show ((128 : Int32) + ((9 : Int32) * nI k)) + nI j = nI (128 + 9 * k + j) from ixs 128 9 k j]
      simp (disch := omega) only [bd_s, bn_s, gi_nI, cl_nI, sU_s, sU_n, sU_sU, nI_1, nI_pred]
      rw [su0 (hz j (by omega)), sU_id]
      exact ih (j + 1) (by omega) (by omega)
set_option maxHeartbeats 4000000 in
theorem op_rider {p : T3} {g : T1} (hI : OK g) (hR : RR p g) : OPR g (fX5_addRider p) (fun σ => fX11_rider σ) := by
  obtain ⟨ns, nb, nr, nv, hI⟩ := hI
  obtain ⟨⟨h0, h1, h2, h3, hs6, hb16, hr8, hv2⟩, ⟨tm, h4, ht⟩, ⟨⟨t5, h5, ht5⟩, ⟨t6, h6, ht6, ht6b⟩, ⟨t7, h7, ht7⟩⟩, hpl, hdk, hbc, hrd, hvn, hzS, hzB, hzR, hzV⟩ := id hI
  obtain ⟨⟨a0, a1, a2, a3, a4, a5⟩, ⟨s0, s1, s2, s3⟩, ⟨b0, b1, b2, b3, b4, b5⟩, ⟨r0, r1, r2, r3, r4, r5, r6, r7, r8⟩, ⟨v0, v1, v2⟩⟩ := id hR
  have eX := a2.trans h2
  by_cases c : nr = 8
  · refine opr_e (-3) (by decide) (p' := sU p 2 (p 2)) ?_ (fun σ σc hσ _ => ?_)
    · rw [fX5_addRider, fX4_add, eX, if_neg (by rw [c]; decide), bd_s, bn_s]
    · rw [fX11_rider, ct2, hσ, h2, if_pos (by rw [c]; rfl)]
  · refine opr_o (nI nr) (sU (sU g (128 + 9 * nr + 2) (-4)) 2 (nI (nr + 1))) (nI_pos (by omega)) (p' := sU p 2 (sU (sU (p 2) 4 (sU (p 2 4) nr (-1))) 9 (sU (p 2 9) 0 (nI (nr + 1))))) ?_ (fun σ σc hσ hC => ?_) ?_ ?_
    · rw [fX5_addRider, fX4_add, eX, if_pos (lt_i (x := 8) (b := 8) rfl (by omega) (by decide))]
      simp (disch := omega) only [bd_s, bn_s, gi_nI, cl_nI, sU_s, sU_n, sU_sU, nI_1, nI_pred, eX]
    · obtain ⟨hc1, hc2⟩ := hC
      rw [fX11_rider, ct2, hσ, h2, if_neg (ne_i (x := 8) (b := 8) rfl c (by omega) (by omega)), hc1, bd_s]
      refine (M_rider_lp (by omega) (fun w hw => ?_) fuel 0 (by omega) (by unfold fuel; omega)).trans ?_
      · rw [hc2, hσ]
        obtain ⟨q0, q1, q2, q3, q4, q5, q6, q7, q8⟩ := hzR nr (Nat.le_refl _) (by omega)
        rcases (show w = 0 ∨ w = 1 ∨ w = 2 ∨ w = 3 ∨ w = 4 ∨ w = 5 ∨ w = 6 ∨ w = 7 ∨ w = 8 by omega) with rfl | rfl | rfl | rfl | rfl | rfl | rfl | rfl | rfl <;> assumption
      · rw [hc2, hσ, h2, nI_1]
    · exact ⟨ns, nb, nr + 1, nv, ⟨⟨(by (try simp (disch := omega) only [sU_n, sU_s]); exact h0), (by (try simp (disch := omega) only [sU_n, sU_s]); exact h1), (by simp (disch := omega) only [sU_n, sU_s]), (by (try simp (disch := omega) only [sU_n, sU_s]); exact h3), hs6, hb16, (by omega), hv2⟩, ⟨tm, (by (try simp (disch := omega) only [sU_n, sU_s]); exact h4), ht⟩, ⟨⟨t5, (by (try simp (disch := omega) only [sU_n, sU_s]); exact h5), ht5⟩, ⟨t6, (by (try simp (disch := omega) only [sU_n, sU_s]); exact h6), ht6, ht6b⟩, ⟨t7, (by (try simp (disch := omega) only [sU_n, sU_s]); exact h7), ht7⟩⟩, (fun k9 hk9 => by (try simp (disch := omega) only [sU_n, sU_s]); exact hpl k9 hk9), (fun k9 hk9 => by
    rw [cw_congr (g' := (sU (sU g (128 + 9 * nr + 2) (-4)) 2 (nI (nr + 1)))) (g := g) nb (fun j hj => by constructor <;> (try simp (disch := omega) only [sU_n, sU_s]))]
    (try simp (disch := omega) only [sU_n, sU_s])
    exact hdk k9 hk9), (fun k hk => by
        simp (disch := omega) only [sU_n, sU_s]
        obtain ⟨q1, q2⟩ := hbc k hk
        refine ⟨?_, q2⟩
        rcases q1 with q | ⟨z, j, hj, hz⟩ | q | q
        · exact Or.inl q
        · exact Or.inr (Or.inl ⟨z, j, by omega, hz⟩)
        · exact Or.inr (Or.inr (Or.inl q))
        · exact Or.inr (Or.inr (Or.inr q))), (fun k hk => by
        by_cases e : k = nr
        · subst e
          obtain ⟨q0, q1, q2, q3, q4, q5, q6, q7, q8⟩ := hzR k (Nat.le_refl _) (by omega)
          unfold RD
          simp (disch := omega) only [sU_n, sU_s]
          exact ⟨Or.inl (by trivial), ⟨0, q1, by omega⟩, ⟨0, q3, by omega⟩, ⟨0, 0, q6, by omega, q4, by omega⟩, Or.inl q5⟩
        · exact RD_congr (fun w hw => by (try simp (disch := omega) only [sU_n, sU_s])) (hrd k (by omega))), (fun k9 hk9 => by
    rw [cw_congr (g' := (sU (sU g (128 + 9 * nr + 2) (-4)) 2 (nI (nr + 1)))) (g := g) nb (fun j hj => by constructor <;> (try simp (disch := omega) only [sU_n, sU_s]))]
    (try simp (disch := omega) only [sU_n, sU_s])
    exact hvn k9 hk9), (fun k9 hk9 hk92 => by (try simp (disch := omega) only [sU_n, sU_s]); exact hzS k9 hk9 hk92), (fun k9 hk9 hk92 => by (try simp (disch := omega) only [sU_n, sU_s]); exact hzB k9 hk9 hk92), (fun k hk hk2 => by simp (disch := omega) only [sU_n, sU_s]; exact hzR k (by omega) hk2), (fun k9 hk9 => by (try simp (disch := omega) only [sU_n, sU_s]); exact hzV k9 hk9)⟩⟩
    · exact ⟨⟨(by (try simp (disch := omega) only [sU_n, sU_s]); exact a0), (by (try simp (disch := omega) only [sU_n, sU_s]); exact a1), (by simp (disch := omega) only [sU_n, sU_s]), (by (try simp (disch := omega) only [sU_n, sU_s]); exact a3), (by (try simp (disch := omega) only [sU_n, sU_s]); exact a4), (fun i hi => by (try simp (disch := omega) only [sU_n, sU_s]); exact a5 i hi)⟩, ⟨(fun k9 hk9 => by (try simp (disch := omega) only [sU_n, sU_s]); exact s0 k9 hk9), (fun k9 hk9 => by (try simp (disch := omega) only [sU_n, sU_s]); exact s1 k9 hk9), (fun k9 hk9 => by (try simp (disch := omega) only [sU_n, sU_s]); exact s2 k9 hk9), (fun k9 hk9 => by (try simp (disch := omega) only [sU_n, sU_s]); exact s3 k9 hk9)⟩, ⟨(fun k9 hk9 => by (try simp (disch := omega) only [sU_n, sU_s]); exact b0 k9 hk9), (fun k9 hk9 => by (try simp (disch := omega) only [sU_n, sU_s]); exact b1 k9 hk9), (fun k9 hk9 => by (try simp (disch := omega) only [sU_n, sU_s]); exact b2 k9 hk9), (fun k9 hk9 => by (try simp (disch := omega) only [sU_n, sU_s]); exact b3 k9 hk9), (fun k9 hk9 => by (try simp (disch := omega) only [sU_n, sU_s]); exact b4 k9 hk9), (fun k9 hk9 => by (try simp (disch := omega) only [sU_n, sU_s]); exact b5 k9 hk9)⟩, ⟨(fun k9 hk9 => by
    by_cases e : k9 = nr
    · subst e
      (try simp (disch := omega) only [sU_n, sU_s])
      all_goals (first | rfl | exact r0 _ hk9)
    · (try simp (disch := omega) only [sU_n, sU_s])
      exact r0 k9 hk9), (fun k9 hk9 => by
    by_cases e : k9 = nr
    · subst e
      (try simp (disch := omega) only [sU_n, sU_s])
      all_goals (first | rfl | exact r1 _ hk9)
    · (try simp (disch := omega) only [sU_n, sU_s])
      exact r1 k9 hk9), (fun k9 hk9 => by
    by_cases e : k9 = nr
    · subst e
      (try simp (disch := omega) only [sU_n, sU_s])
      all_goals (first | rfl | exact r2 _ hk9)
    · (try simp (disch := omega) only [sU_n, sU_s])
      exact r2 k9 hk9), (fun k9 hk9 => by
    by_cases e : k9 = nr
    · subst e
      (try simp (disch := omega) only [sU_n, sU_s])
      all_goals (first | rfl | exact r3 _ hk9)
    · (try simp (disch := omega) only [sU_n, sU_s])
      exact r3 k9 hk9), (fun k9 hk9 => by
    by_cases e : k9 = nr
    · subst e
      (try simp (disch := omega) only [sU_n, sU_s])
      all_goals (first | rfl | exact r4 _ hk9)
    · (try simp (disch := omega) only [sU_n, sU_s])
      exact r4 k9 hk9), (fun k9 hk9 => by
    by_cases e : k9 = nr
    · subst e
      (try simp (disch := omega) only [sU_n, sU_s])
      all_goals (first | rfl | exact r5 _ hk9)
    · (try simp (disch := omega) only [sU_n, sU_s])
      exact r5 k9 hk9), (fun k9 hk9 => by
    by_cases e : k9 = nr
    · subst e
      (try simp (disch := omega) only [sU_n, sU_s])
      all_goals (first | rfl | exact r6 _ hk9)
    · (try simp (disch := omega) only [sU_n, sU_s])
      exact r6 k9 hk9), (fun k hk => by
    by_cases e : k = nr
    · subst e
      refine Or.inl ?_
      simp (disch := omega) only [sU_n, sU_s]
    · (try simp (disch := omega) only [sU_n, sU_s])
      rcases r7 k hk with q | q | q
      · exact Or.inl q
      · exact Or.inr (Or.inl q)
      · refine Or.inr (Or.inr ?_)
        rw [h2, nI_leI (by omega) (by omega)] at q
        exact nI_le (by omega) (by omega)), (fun k9 hk9 => by
    by_cases e : k9 = nr
    · subst e
      (try simp (disch := omega) only [sU_n, sU_s])
      all_goals (first | rfl | exact r8 _ hk9)
    · (try simp (disch := omega) only [sU_n, sU_s])
      exact r8 k9 hk9)⟩, ⟨(fun k9 hk9 => by (try simp (disch := omega) only [sU_n, sU_s]); exact v0 k9 hk9), (fun k9 hk9 => by (try simp (disch := omega) only [sU_n, sU_s]); exact v1 k9 hk9), (fun k9 hk9 => by (try simp (disch := omega) only [sU_n, sU_s]); exact v2 k9 hk9)⟩⟩
set_option maxHeartbeats 4000000 in
theorem op_van {p : T3} {g : T1} (hI : OK g) (hR : RR p g) (p1 p2 : Int32) : OPR g (fX5_addVan p p1 p2) (fun σ => fX11_van σ p1 p2) := by
  obtain ⟨ns, nb, nr, nv, hI⟩ := hI
  obtain ⟨⟨h0, h1, h2, h3, hs6, hb16, hr8, hv2⟩, ⟨tm, h4, ht⟩, ⟨⟨t5, h5, ht5⟩, ⟨t6, h6, ht6, ht6b⟩, ⟨t7, h7, ht7⟩⟩, hpl, hdk, hbc, hrd, hvn, hzS, hzB, hzR, hzV⟩ := id hI
  obtain ⟨⟨a0, a1, a2, a3, a4, a5⟩, ⟨s0, s1, s2, s3⟩, ⟨b0, b1, b2, b3, b4, b5⟩, ⟨r0, r1, r2, r3, r4, r5, r6, r7, r8⟩, ⟨v0, v1, v2⟩⟩ := id hR
  have eX := a3.trans h3
  by_cases hk : inN p1 ns
  case neg =>
    refine opr_e (-1) (by decide) (p' := p) ?_ (fun σ σc hσ _ => ?_)
    · rw [fX5_addVan, X6_has hI hR, hs_f hk (by omega), bd_s, if_pos rfl]
    · rw [fX11_van, M_isStation (by rw [hσ]; exact h0), hs_f hk (by omega), bd_s, if_pos rfl]
  obtain ⟨k, hk, rfl⟩ := hk
  have X0 : fX6_has (p 0) (nI k) = some 1 := by rw [X6_has hI hR, hs_t hk (by omega)]
  have M0 : ∀ σ : T2, σ 0 = g → fX11_isStation σ (nI k) = some 1 := fun σ hσ => by rw [M_isStation (by rw [hσ]; exact h0), hs_t hk (by omega)]
  by_cases c3 : p2 < 1
  · refine opr_e (-1) (by decide) (p' := p) (by rw [fX5_addVan, X0, bd_s, if_neg ne10, if_pos c3]) (fun σ σc hσ _ => by rw [fX11_van, M0 σ hσ, bd_s, if_neg ne10, M_in0 c3, bd_s, if_pos rfl])
  by_cases c4 : (6 : Int32) < p2
  · refine opr_e (-1) (by decide) (p' := p) (by rw [fX5_addVan, X0, bd_s, if_neg ne10, if_neg c3, if_neg (lt_nle c4)]) (fun σ σc hσ _ => by rw [fX11_van, M0 σ hσ, bd_s, if_neg ne10, M_in1 c3 c4, bd_s, if_pos rfl])
  obtain ⟨x2, hx2, hx3, e2⟩ := ofI (a := 1) (b := 6) (by decide) (by decide) c3 c4
  by_cases c : nv = 2
  · refine opr_e (-3) (by decide) (p' := sU p 3 (p 3)) ?_ (fun σ σc hσ _ => ?_)
    · rw [fX5_addVan, X0, bd_s, if_neg ne10, if_neg c3, if_pos (nlt_le c4), fX8_add, eX, if_neg (by rw [c]; decide), bd_s, bn_s]
    · rw [fX11_van, M0 σ hσ, bd_s, if_neg ne10, M_in2 c3 c4, bd_s, if_neg ne10, ct3, hσ, h3, if_pos (by rw [c]; rfl)]
  · refine opr_o (nI nv) (sU (sU (sU (sU g (200 + 3 * nv) (nI k)) (200 + 3 * nv + 1) (nI x2)) (200 + 3 * nv + 2) 0) 3 (nI (nv + 1))) (nI_pos (by omega)) (p' := sU p 3 (sU (sU (sU (p 3) 0 (sU (p 3 0) nv (nI k))) 1 (sU (p 3 1) nv (nI x2))) 3 (sU (p 3 3) 0 (nI (nv + 1))))) ?_ (fun σ σc hσ hC => ?_) ?_ ?_
    · rw [fX5_addVan, X0, bd_s, if_neg ne10, if_neg c3, if_pos (nlt_le c4), fX8_add, eX, if_pos (lt_i (x := 2) (b := 2) rfl (by omega) (by decide)), e2]
      simp (disch := omega) only [bd_s, bn_s, gi_nI, cl_nI, sU_s, sU_n, sU_sU, nI_1, nI_pred, eX]
    · obtain ⟨hc1, hc2⟩ := hC
      rw [fX11_van, M0 σ hσ, bd_s, if_neg ne10, M_in2 c3 c4, bd_s, if_neg ne10, ct3, hσ, h3, if_neg (ne_i (x := 2) (b := 2) rfl c (by omega) (by omega)), hc1, bd_s, e2]
      simp (disch := omega) only [bd_s, bn_s, gi_nI, cl_nI, sU_s, sU_n, sU_sU, nI_1, nI_pred, ixV0, ixV1, ixV2, hc2, hσ, h3, ct3]
    · exact ⟨ns, nb, nr, nv + 1, ⟨⟨(by (try simp (disch := omega) only [sU_n, sU_s]); exact h0), (by (try simp (disch := omega) only [sU_n, sU_s]); exact h1), (by (try simp (disch := omega) only [sU_n, sU_s]); exact h2), (by simp (disch := omega) only [sU_n, sU_s]), hs6, hb16, hr8, (by omega)⟩, ⟨tm, (by (try simp (disch := omega) only [sU_n, sU_s]); exact h4), ht⟩, ⟨⟨t5, (by (try simp (disch := omega) only [sU_n, sU_s]); exact h5), ht5⟩, ⟨t6, (by (try simp (disch := omega) only [sU_n, sU_s]); exact h6), ht6, ht6b⟩, ⟨t7, (by (try simp (disch := omega) only [sU_n, sU_s]); exact h7), ht7⟩⟩, (fun k9 hk9 => by (try simp (disch := omega) only [sU_n, sU_s]); exact hpl k9 hk9), (fun k9 hk9 => by
    rw [cw_congr (g' := (sU (sU (sU (sU g (200 + 3 * nv) (nI k)) (200 + 3 * nv + 1) (nI x2)) (200 + 3 * nv + 2) 0) 3 (nI (nv + 1)))) (g := g) nb (fun j hj => by constructor <;> (try simp (disch := omega) only [sU_n, sU_s]))]
    (try simp (disch := omega) only [sU_n, sU_s])
    exact hdk k9 hk9), (fun k hk => by
        simp (disch := omega) only [sU_n, sU_s]
        obtain ⟨q1, q2⟩ := hbc k hk
        refine ⟨?_, q2⟩
        rcases q1 with q | q | ⟨z, j, hj, hz⟩ | q
        · exact Or.inl q
        · exact Or.inr (Or.inl q)
        · exact Or.inr (Or.inr (Or.inl ⟨z, j, by omega, hz⟩))
        · exact Or.inr (Or.inr (Or.inr q))), (fun k9 hk9 => RD_congr (fun w hw => by (try simp (disch := omega) only [sU_n, sU_s])) (hrd k9 hk9)), (fun i hi => by
        have hcw : cw (sU (sU (sU (sU g (200 + 3 * nv) (nI k)) (200 + 3 * nv + 1) (nI x2)) (200 + 3 * nv + 2) 0) 3 (nI (nv + 1))) 2 (nI i) nb = cw g 2 (nI i) nb := cw_congr nb (fun j hj => by constructor <;> simp (disch := omega) only [sU_n, sU_s])
        rw [hcw]
        by_cases e : i = nv
        · subst e
          simp (disch := omega) only [sU_n, sU_s]
          refine ⟨⟨k, hk, rfl⟩, x2, rfl, hx3, ?_⟩
          rw [cw_zero nb]
          · exact Nat.zero_le _
          · intro j hj q
            rcases (hbc j hj).1 with ⟨z, -⟩ | ⟨z, -⟩ | ⟨z, i2, hi2, hz⟩ | ⟨z, -⟩
            · rw [z] at q; exact absurd q.1 (by decide)
            · rw [z] at q; exact absurd q.1 (by decide)
            · rw [hz] at q
              have := (nI_eq (by omega) (by omega)).mp q.2
              omega
            · rw [z] at q; exact absurd q.1 (by decide)
        · simp (disch := omega) only [sU_n, sU_s]
          exact hvn i (by omega)), (fun k9 hk9 hk92 => by (try simp (disch := omega) only [sU_n, sU_s]); exact hzS k9 hk9 hk92), (fun k9 hk9 hk92 => by (try simp (disch := omega) only [sU_n, sU_s]); exact hzB k9 hk9 hk92), (fun k9 hk9 hk92 => by (try simp (disch := omega) only [sU_n, sU_s]); exact hzR k9 hk9 hk92), (fun k hk => by
    by_cases e : k = nv
    · subst e
      simp (disch := omega) only [sU_n, sU_s]
      exact ⟨fun _ => by trivial, 0, rfl, by omega⟩
    · simp (disch := omega) only [sU_n, sU_s]
      exact ⟨fun q => (hzV k hk).1 (by omega), (hzV k hk).2⟩)⟩⟩
    · exact ⟨⟨(by (try simp (disch := omega) only [sU_n, sU_s]); exact a0), (by (try simp (disch := omega) only [sU_n, sU_s]); exact a1), (by (try simp (disch := omega) only [sU_n, sU_s]); exact a2), (by simp (disch := omega) only [sU_n, sU_s]), (by (try simp (disch := omega) only [sU_n, sU_s]); exact a4), (fun i hi => by (try simp (disch := omega) only [sU_n, sU_s]); exact a5 i hi)⟩, ⟨(fun k9 hk9 => by (try simp (disch := omega) only [sU_n, sU_s]); exact s0 k9 hk9), (fun k9 hk9 => by (try simp (disch := omega) only [sU_n, sU_s]); exact s1 k9 hk9), (fun k9 hk9 => by (try simp (disch := omega) only [sU_n, sU_s]); exact s2 k9 hk9), (fun k9 hk9 => by (try simp (disch := omega) only [sU_n, sU_s]); exact s3 k9 hk9)⟩, ⟨(fun k9 hk9 => by (try simp (disch := omega) only [sU_n, sU_s]); exact b0 k9 hk9), (fun k9 hk9 => by (try simp (disch := omega) only [sU_n, sU_s]); exact b1 k9 hk9), (fun k9 hk9 => by (try simp (disch := omega) only [sU_n, sU_s]); exact b2 k9 hk9), (fun k9 hk9 => by (try simp (disch := omega) only [sU_n, sU_s]); exact b3 k9 hk9), (fun k9 hk9 => by (try simp (disch := omega) only [sU_n, sU_s]); exact b4 k9 hk9), (fun k9 hk9 => by (try simp (disch := omega) only [sU_n, sU_s]); exact b5 k9 hk9)⟩, ⟨(fun k9 hk9 => by (try simp (disch := omega) only [sU_n, sU_s]); exact r0 k9 hk9), (fun k9 hk9 => by (try simp (disch := omega) only [sU_n, sU_s]); exact r1 k9 hk9), (fun k9 hk9 => by (try simp (disch := omega) only [sU_n, sU_s]); exact r2 k9 hk9), (fun k9 hk9 => by (try simp (disch := omega) only [sU_n, sU_s]); exact r3 k9 hk9), (fun k9 hk9 => by (try simp (disch := omega) only [sU_n, sU_s]); exact r4 k9 hk9), (fun k9 hk9 => by (try simp (disch := omega) only [sU_n, sU_s]); exact r5 k9 hk9), (fun k9 hk9 => by (try simp (disch := omega) only [sU_n, sU_s]); exact r6 k9 hk9), (fun k9 hk9 => by (try simp (disch := omega) only [sU_n, sU_s]); exact r7 k9 hk9), (fun k9 hk9 => by (try simp (disch := omega) only [sU_n, sU_s]); exact r8 k9 hk9)⟩, ⟨(fun k9 hk9 => by
    by_cases e : k9 = nv
    · subst e
      (try simp (disch := omega) only [sU_n, sU_s])
      all_goals (first | rfl | exact v0 _ hk9)
    · (try simp (disch := omega) only [sU_n, sU_s])
      exact v0 k9 hk9), (fun k9 hk9 => by
    by_cases e : k9 = nv
    · subst e
      (try simp (disch := omega) only [sU_n, sU_s])
      all_goals (first | rfl | exact v1 _ hk9)
    · (try simp (disch := omega) only [sU_n, sU_s])
      exact v1 k9 hk9), (fun k9 hk9 => by
    by_cases e : k9 = nv
    · subst e
      (try simp (disch := omega) only [sU_n, sU_s])
      all_goals (exact (v2 _ hk9).trans ((hzV _ hk9).1 (Nat.le_refl _)))
    · (try simp (disch := omega) only [sU_n, sU_s])
      exact v2 k9 hk9)⟩⟩
theorem M_bicycle_lp {σ : T2} {k : Nat} {p1 : Int32} (hk : k < 16) (hz : ∀ w, w < 6 → σ 0 (32 + 6 * k + w) = 0) : ∀ (n j : Nat), j ≤ 6 → 6 - j < n → fX11_bicycle_43 p1 n σ (nI k) (nI j) = some (nI k, sU σ 0 (sU (sU (sU (σ 0) (32 + 6 * k) 0) (32 + 6 * k + 1) p1) 1 (σ 0 1 + 1))) := by
  intro n
  induction n with
  | zero => intro j h1 h2; omega
  | succ n ih =>
    intro j h1 h2
    rw [fX11_bicycle_43]
    by_cases hj : j = 6
    · subst hj
      rw [if_pos (by decide), M_puts hk]
      simp (disch := omega) only [bd_s, bn_s, gi_nI, cl_nI, sU_s, sU_n, sU_sU, nI_1, nI_pred, ct1]
    · rw [if_neg (fun q => hj (by
        have := (nI_leI (a := 6) (b := j) (by omega) (by omega)).mp q
        omega))]
      rw [show ((32 : Int32) + ((6 : Int32) * nI k)) + nI j = nI (32 + 6 * k + j) from ixs 32 6 k j]
      simp (disch := omega) only [bd_s, bn_s, gi_nI, cl_nI, sU_s, sU_n, sU_sU, nI_1, nI_pred]
      rw [su0 (hz j (by omega)), sU_id]
      exact ih (j + 1) (by omega) (by omega)
set_option maxHeartbeats 4000000 in
theorem op_bicycle {p : T3} {g : T1} (hI : OK g) (hR : RR p g) (p1 : Int32) : OPR g (fX5_addBicycle p p1) (fun σ => fX11_bicycle σ p1) := by
  obtain ⟨ns, nb, nr, nv, hI⟩ := hI
  obtain ⟨⟨h0, h1, h2, h3, hs6, hb16, hr8, hv2⟩, ⟨tm, h4, ht⟩, ⟨⟨t5, h5, ht5⟩, ⟨t6, h6, ht6, ht6b⟩, ⟨t7, h7, ht7⟩⟩, hpl, hdk, hbc, hrd, hvn, hzS, hzB, hzR, hzV⟩ := id hI
  obtain ⟨⟨a0, a1, a2, a3, a4, a5⟩, ⟨s0, s1, s2, s3⟩, ⟨b0, b1, b2, b3, b4, b5⟩, ⟨r0, r1, r2, r3, r4, r5, r6, r7, r8⟩, ⟨v0, v1, v2⟩⟩ := id hR
  have eX := a1.trans h1
  by_cases hk : inN p1 ns
  case neg =>
    refine opr_e (-1) (by decide) (p' := p) ?_ (fun σ σc hσ _ => ?_)
    · rw [fX5_addBicycle, X6_has hI hR, hs_f hk (by omega), bd_s, if_pos rfl]
    · rw [fX11_bicycle, M_isStation (by rw [hσ]; exact h0), hs_f hk (by omega), bd_s, if_pos rfl]
  obtain ⟨k, hk, rfl⟩ := hk
  have X0 : fX6_has (p 0) (nI k) = some 1 := by rw [X6_has hI hR, hs_t hk (by omega)]
  have M0 : ∀ σ : T2, σ 0 = g → fX11_isStation σ (nI k) = some 1 := fun σ hσ => by rw [M_isStation (by rw [hσ]; exact h0), hs_t hk (by omega)]
  have M1 : ∀ σ : T2, σ 0 = g → fX11_isFree σ (nI k) = some (fr g nb k) := fun σ hσ => by rw [M_free (ns := ns) (nb := nb) (nr := nr) (nv := nv) (by rw [hσ]; exact hI) hk, hσ]
  by_cases hf : fr g nb k = 0
  · refine opr_e (-2) (by decide) (p' := p) ?_ (fun σ σc hσ _ => ?_)
    · rw [fX5_addBicycle, X0, bd_s, if_neg ne10, X_free hI hR hk, bd_s, if_pos hf]
    · rw [fX11_bicycle, M0 σ hσ, bd_s, if_neg ne10, M1 σ hσ, bd_s, if_pos hf]
  by_cases c : nb = 16
  · refine opr_e (-3) (by decide) (p' := sU p 1 (p 1)) ?_ (fun σ σc hσ _ => ?_)
    · rw [fX5_addBicycle, X0, bd_s, if_neg ne10, X_free hI hR hk, bd_s, if_neg hf, fX1_add, eX, if_neg (by rw [c]; decide), bd_s, bn_s]
    · rw [fX11_bicycle, M0 σ hσ, bd_s, if_neg ne10, M1 σ hσ, bd_s, if_neg hf, ct1, hσ, h1, if_pos (by rw [c]; rfl)]
  · refine opr_o (nI nb) (sU (sU (sU g (32 + 6 * nb) 0) (32 + 6 * nb + 1) (nI k)) 1 (nI (nb + 1))) (nI_pos (by omega)) (p' := sU p 1 (sU (sU (sU (p 1) 0 (sU (p 1 0) nb 0)) 1 (sU (p 1 1) nb (nI k))) 6 (sU (p 1 6) 0 (nI (nb + 1))))) ?_ (fun σ σc hσ hC => ?_) ?_ ?_
    · rw [fX5_addBicycle, X0, bd_s, if_neg ne10, X_free hI hR hk, bd_s, if_neg hf, fX1_add, eX, if_pos (lt_i (x := 16) (b := 16) rfl (by omega) (by decide))]
      simp (disch := omega) only [bd_s, bn_s, gi_nI, cl_nI, sU_s, sU_n, sU_sU, nI_1, nI_pred, eX]
    · obtain ⟨hc1, hc2⟩ := hC
      rw [fX11_bicycle, M0 σ hσ, bd_s, if_neg ne10, M1 σ hσ, bd_s, if_neg hf, ct1, hσ, h1, if_neg (ne_i (x := 16) (b := 16) rfl c (by omega) (by omega)), hc1, bd_s]
      refine (M_bicycle_lp (by omega) (fun w hw => ?_) fuel 0 (by omega) (by unfold fuel; omega)).trans ?_
      · rw [hc2, hσ]
        obtain ⟨q0, q1, q2, q3, q4, q5⟩ := hzB nb (Nat.le_refl _) (by omega)
        rcases (show w = 0 ∨ w = 1 ∨ w = 2 ∨ w = 3 ∨ w = 4 ∨ w = 5 by omega) with rfl | rfl | rfl | rfl | rfl | rfl <;> assumption
      · rw [hc2, hσ, h1, nI_1]
    · exact ⟨ns, nb + 1, nr, nv, ⟨⟨(by (try simp (disch := omega) only [sU_n, sU_s]); exact h0), (by simp (disch := omega) only [sU_n, sU_s]), (by (try simp (disch := omega) only [sU_n, sU_s]); exact h2), (by (try simp (disch := omega) only [sU_n, sU_s]); exact h3), hs6, (by omega), hr8, hv2⟩, ⟨tm, (by (try simp (disch := omega) only [sU_n, sU_s]); exact h4), ht⟩, ⟨⟨t5, (by (try simp (disch := omega) only [sU_n, sU_s]); exact h5), ht5⟩, ⟨t6, (by (try simp (disch := omega) only [sU_n, sU_s]); exact h6), ht6, ht6b⟩, ⟨t7, (by (try simp (disch := omega) only [sU_n, sU_s]); exact h7), ht7⟩⟩, (fun k9 hk9 => by (try simp (disch := omega) only [sU_n, sU_s]); exact hpl k9 hk9), (fun i hi => by
        have hcw : cw (sU (sU (sU g (32 + 6 * nb) 0) (32 + 6 * nb + 1) (nI k)) 1 (nI (nb + 1))) 0 (nI i) (nb + 1) = cw g 0 (nI i) nb + (if (sU (sU (sU g (32 + 6 * nb) 0) (32 + 6 * nb + 1) (nI k)) 1 (nI (nb + 1))) (32 + 6 * nb) = 0 ∧ (sU (sU (sU g (32 + 6 * nb) 0) (32 + 6 * nb + 1) (nI k)) 1 (nI (nb + 1))) (32 + 6 * nb + 1) = nI i then 1 else 0) := by
          rw [cw, cw_congr (g' := (sU (sU (sU g (32 + 6 * nb) 0) (32 + 6 * nb + 1) (nI k)) 1 (nI (nb + 1)))) (g := g) nb (fun j hj => by constructor <;> simp (disch := omega) only [sU_n, sU_s])]
        rw [hcw]
        simp (disch := omega) only [sU_n, sU_s]
        obtain ⟨d, h5, h6, h7, h8⟩ := hdk i hi
        refine ⟨d, h5, h6, h7, ?_⟩
        by_cases e : k = i
        · subst e
          obtain ⟨d2, q1, q2, q3, q4⟩ := fr_1 hI hk hf
          have e2 := (nI_eq (by omega) (by omega)).mp (h5.symm.trans q1)
          split <;> omega
        · rw [if_neg (fun q => e ((nI_eq (by omega) (by omega)).mp q.2))]
          omega), (fun i hi => by
        by_cases e : i = nb
        · subst e
          obtain ⟨q0, q1, q2, q3, q4, q5⟩ := hzB i (Nat.le_refl _) (by omega)
          simp (disch := omega) only [sU_n, sU_s]
          exact ⟨Or.inl ⟨by trivial, k, hk, rfl⟩, Or.inl q3⟩
        · simp (disch := omega) only [sU_n, sU_s]
          exact hbc i (by omega)), (fun i hi => by
        have q := hrd i hi
        unfold RD at q ⊢
        simp (disch := omega) only [sU_n, sU_s]
        refine ⟨?_, q.2⟩
        rcases q.1 with z | ⟨j, hj, z⟩
        · exact Or.inl z
        · exact Or.inr ⟨j, by omega, z⟩), (fun i hi => by
        have hcw : cw (sU (sU (sU g (32 + 6 * nb) 0) (32 + 6 * nb + 1) (nI k)) 1 (nI (nb + 1))) 2 (nI i) (nb + 1) = cw g 2 (nI i) nb + (if (sU (sU (sU g (32 + 6 * nb) 0) (32 + 6 * nb + 1) (nI k)) 1 (nI (nb + 1))) (32 + 6 * nb) = 2 ∧ (sU (sU (sU g (32 + 6 * nb) 0) (32 + 6 * nb + 1) (nI k)) 1 (nI (nb + 1))) (32 + 6 * nb + 1) = nI i then 1 else 0) := by
          rw [cw, cw_congr (g' := (sU (sU (sU g (32 + 6 * nb) 0) (32 + 6 * nb + 1) (nI k)) 1 (nI (nb + 1)))) (g := g) nb (fun j hj => by constructor <;> simp (disch := omega) only [sU_n, sU_s])]
        rw [hcw, if_neg (fun q => by
          rw [show (sU (sU (sU g (32 + 6 * nb) 0) (32 + 6 * nb + 1) (nI k)) 1 (nI (nb + 1))) (32 + 6 * nb) = 0 by simp (disch := omega) only [sU_n, sU_s]] at q
          exact absurd q.1 (by decide))]
        simp (disch := omega) only [sU_n, sU_s]
        exact hvn i hi), (fun k9 hk9 hk92 => by (try simp (disch := omega) only [sU_n, sU_s]); exact hzS k9 hk9 hk92), (fun k hk hk2 => by simp (disch := omega) only [sU_n, sU_s]; exact hzB k (by omega) hk2), (fun k9 hk9 hk92 => by (try simp (disch := omega) only [sU_n, sU_s]); exact hzR k9 hk9 hk92), (fun k9 hk9 => by (try simp (disch := omega) only [sU_n, sU_s]); exact hzV k9 hk9)⟩⟩
    · exact ⟨⟨(by (try simp (disch := omega) only [sU_n, sU_s]); exact a0), (by simp (disch := omega) only [sU_n, sU_s]), (by (try simp (disch := omega) only [sU_n, sU_s]); exact a2), (by (try simp (disch := omega) only [sU_n, sU_s]); exact a3), (by (try simp (disch := omega) only [sU_n, sU_s]); exact a4), (fun i hi => by (try simp (disch := omega) only [sU_n, sU_s]); exact a5 i hi)⟩, ⟨(fun k9 hk9 => by (try simp (disch := omega) only [sU_n, sU_s]); exact s0 k9 hk9), (fun k9 hk9 => by (try simp (disch := omega) only [sU_n, sU_s]); exact s1 k9 hk9), (fun k9 hk9 => by (try simp (disch := omega) only [sU_n, sU_s]); exact s2 k9 hk9), (fun k9 hk9 => by (try simp (disch := omega) only [sU_n, sU_s]); exact s3 k9 hk9)⟩, ⟨(fun k9 hk9 => by
    by_cases e : k9 = nb
    · subst e
      (try simp (disch := omega) only [sU_n, sU_s])
      all_goals (first | rfl | exact b0 _ hk9)
    · (try simp (disch := omega) only [sU_n, sU_s])
      exact b0 k9 hk9), (fun k9 hk9 => by
    by_cases e : k9 = nb
    · subst e
      (try simp (disch := omega) only [sU_n, sU_s])
      all_goals (exact ((mp_nI (by omega)).mpr rfl).symm)
    · (try simp (disch := omega) only [sU_n, sU_s])
      exact b1 k9 hk9), (fun k9 hk9 => by
    by_cases e : k9 = nb
    · subst e
      (try simp (disch := omega) only [sU_n, sU_s])
      all_goals (first | rfl | exact b2 _ hk9)
    · (try simp (disch := omega) only [sU_n, sU_s])
      exact b2 k9 hk9), (fun k9 hk9 => by
    by_cases e : k9 = nb
    · subst e
      (try simp (disch := omega) only [sU_n, sU_s])
      all_goals (first | rfl | exact b3 _ hk9)
    · (try simp (disch := omega) only [sU_n, sU_s])
      exact b3 k9 hk9), (fun k9 hk9 => by
    by_cases e : k9 = nb
    · subst e
      (try simp (disch := omega) only [sU_n, sU_s])
      all_goals (first | rfl | exact b4 _ hk9)
    · (try simp (disch := omega) only [sU_n, sU_s])
      exact b4 k9 hk9), (fun k9 hk9 => by
    by_cases e : k9 = nb
    · subst e
      (try simp (disch := omega) only [sU_n, sU_s])
      all_goals (first | rfl | exact b5 _ hk9)
    · (try simp (disch := omega) only [sU_n, sU_s])
      exact b5 k9 hk9)⟩, ⟨(fun k9 hk9 => by (try simp (disch := omega) only [sU_n, sU_s]); exact r0 k9 hk9), (fun k9 hk9 => by (try simp (disch := omega) only [sU_n, sU_s]); exact r1 k9 hk9), (fun k9 hk9 => by (try simp (disch := omega) only [sU_n, sU_s]); exact r2 k9 hk9), (fun k9 hk9 => by (try simp (disch := omega) only [sU_n, sU_s]); exact r3 k9 hk9), (fun k9 hk9 => by (try simp (disch := omega) only [sU_n, sU_s]); exact r4 k9 hk9), (fun k9 hk9 => by (try simp (disch := omega) only [sU_n, sU_s]); exact r5 k9 hk9), (fun k9 hk9 => by (try simp (disch := omega) only [sU_n, sU_s]); exact r6 k9 hk9), (fun k9 hk9 => by (try simp (disch := omega) only [sU_n, sU_s]); exact r7 k9 hk9), (fun k9 hk9 => by (try simp (disch := omega) only [sU_n, sU_s]); exact r8 k9 hk9)⟩, ⟨(fun k9 hk9 => by (try simp (disch := omega) only [sU_n, sU_s]); exact v0 k9 hk9), (fun k9 hk9 => by (try simp (disch := omega) only [sU_n, sU_s]); exact v1 k9 hk9), (fun k9 hk9 => by (try simp (disch := omega) only [sU_n, sU_s]); exact v2 k9 hk9)⟩⟩
