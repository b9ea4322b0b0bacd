/-! MATH 2: the changes, one by one: stations, bicycles, riders, vans -/
theorem M_in0 {p a b : Int32} (h : p < a) : fX11_in p a b = some 0 := by rw [fX11_in, if_pos h]
theorem M_in1 {p a b : Int32} (h : ¬ p < a) (h2 : b < p) : fX11_in p a b = some 0 := by rw [fX11_in, if_neg h, if_pos h2]
theorem M_in2 {p a b : Int32} (h : ¬ p < a) (h2 : ¬ b < p) : fX11_in p a b = some 1 := by rw [fX11_in, if_neg h, if_neg h2]
theorem nlt_le {a b : Int32} (h : ¬ b < a) : a ≤ b := Int32.not_lt.mp h
theorem lt_nle {a b : Int32} (h : b < a) : ¬ a ≤ b := Int32.not_le.mpr h
theorem ofI {p : Int32} {a b : Nat} (hb : b + 1 < 2 ^ 31) (ha : a < 2 ^ 31) (h1 : ¬ p < nI a) (h2 : ¬ nI b < p) : ∃ k, a ≤ k ∧ k ≤ b ∧ p = nI k := by
  rcases pk_ix p (n := b + 1) hb with q | q | ⟨j, q1, q2⟩
  · exact absurd (Int32.lt_of_lt_of_le q (nI_pos' ha)) h1
  · exact absurd (Int32.lt_of_lt_of_le (nI_lt (Nat.lt_succ_self b) hb) q) h2
  · refine ⟨j, ?_, by omega, q2⟩
    rw [q2, nI_ltI (by omega) ha] at h1
    omega
theorem cw_zero {g : T1} {st wh : Int32} : ∀ (n : Nat), (∀ k, k < n → ¬ (g (32 + 6 * k) = st ∧ g (32 + 6 * k + 1) = wh)) → cw g st wh n = 0
  | 0, _ => rfl
  | n + 1, h => by rw [cw, cw_zero n (fun k hk => h k (by omega)), if_neg (h n (by omega))]
theorem lt_i {a b : Nat} {x : Int32} (hx : x = nI b) (h : a < b) (hb : b < 2 ^ 31) : nI a < x := by rw [hx]; exact nI_lt h hb
theorem ne_i {a b : Nat} {x : Int32} (hx : x = nI b) (h : ¬ a = b) (ha : a < 2 ^ 31) (hb : b < 2 ^ 31) : ¬ nI a = x := by rw [hx, nI_eq ha hb]; exact h
set_option maxHeartbeats 4000000 in
theorem op_station {p : T3} {g : T1} (hI : OK g) (hR : RR p g) (p1 p2 : Int32) : OPR g (fX5_addStation p p1 p2) (fun σ => fX11_station σ p1 p2) := by
  obtain ⟨ns, nb, nr, nv, hI⟩ := hI
  obtain ⟨⟨h0, h1, h2, h3, hs6, hb16, hr8, hv2⟩, ⟨tm, h4, ht⟩, ⟨⟨t5, h5, ht5⟩, ⟨t6, h6, ht6, ht6b⟩, ⟨t7, h7, ht7⟩⟩, hpl, hdk, hbc, hrd, hvn, hzS, hzB, hzR, hzV⟩ := id hI
  obtain ⟨⟨a0, a1, a2, a3, a4, a5⟩, ⟨s0, s1, s2, s3⟩, ⟨b0, b1, b2, b3, b4, b5⟩, ⟨r0, r1, r2, r3, r4, r5, r6, r7, r8⟩, ⟨v0, v1, v2⟩⟩ := id hR
  by_cases c1 : p1 < 0
  · exact opr_e (-1) (by decide) (by rw [fX5_addStation, if_pos c1]) (fun σ σc _ _ => by rw [fX11_station, M_in0 c1, bd_s, if_pos rfl])
  by_cases c2 : (99 : Int32) < p1
  · exact opr_e (-1) (by decide) (by rw [fX5_addStation, if_neg c1, if_pos c2]) (fun σ σc _ _ => by rw [fX11_station, M_in1 c1 c2, bd_s, if_pos rfl])
  by_cases c3 : p2 < 1
  · exact opr_e (-1) (by decide) (by rw [fX5_addStation, if_neg c1, if_neg c2, if_pos c3]) (fun σ σc _ _ => by rw [fX11_station, M_in2 c1 c2, bd_s, if_neg ne10, M_in0 c3, bd_s, if_pos rfl])
  by_cases c4 : (8 : Int32) < p2
  · exact opr_e (-1) (by decide) (by rw [fX5_addStation, if_neg c1, if_neg c2, if_neg c3, if_neg (lt_nle c4)]) (fun σ σc _ _ => by rw [fX11_station, M_in2 c1 c2, bd_s, if_neg ne10, M_in1 c3 c4, bd_s, if_pos rfl])
  obtain ⟨x1, -, hx1, e1⟩ := ofI (a := 0) (b := 99) (by decide) (by decide) c1 c2
  obtain ⟨x2, hx2, hx3, e2⟩ := ofI (a := 1) (b := 8) (by decide) (by decide) c3 c4
  have eX := a0.trans h0
  by_cases c5 : ns = 6
  · refine opr_e (-3) (by decide) (p' := sU p 0 (p 0)) ?_ (fun σ σc hσ _ => ?_)
    · rw [fX5_addStation, if_neg c1, if_neg c2, if_neg c3, if_pos (nlt_le c4), fX6_add, eX, if_neg (by rw [c5]; decide), bd_s, bn_s]
    · rw [fX11_station, M_in2 c1 c2, bd_s, if_neg ne10, M_in2 c3 c4, bd_s, if_neg ne10, ct0, hσ, h0, if_pos (by rw [c5]; rfl)]
  · have c6 : ns < 6 := by omega
    refine opr_o (nI ns) (sU (sU (sU (sU (sU g (8 + 4 * ns) (nI x1)) (8 + 4 * ns + 1) (nI x2)) (8 + 4 * ns + 2) 0) (8 + 4 * ns + 3) 0) 0 (nI (ns + 1))) (nI_pos (by omega)) (p' := sU p 0 (sU (sU (sU (p 0) 0 (sU (p 0 0) ns (nI x1))) 1 (sU (p 0 1) ns (nI x2))) 4 (sU (p 0 4) 0 (nI (ns + 1))))) ?_ (fun σ σc hσ hC => ?_) ?_ ?_
    · rw [fX5_addStation, if_neg c1, if_neg c2, if_neg c3, if_pos (nlt_le c4), fX6_add, eX, if_pos (lt_i (x := 6) (b := 6) rfl c6 (by decide)), e1, e2]
      simp (disch := omega) only [bd_s, bn_s, gi_nI, cl_nI, sU_s, sU_n, eX, nI_1, nI_pred]
    · obtain ⟨hc1, hc2⟩ := hC
      rw [fX11_station, M_in2 c1 c2, bd_s, if_neg ne10, M_in2 c3 c4, bd_s, if_neg ne10, ct0, hσ, h0, if_neg (ne_i (x := 6) (b := 6) rfl c5 (by omega) (by omega)), hc1, bd_s, e1, e2]
      simp (disch := omega) only [bd_s, bn_s, ixS0, ixS1, ixS2, ixS3, gi_nI, cl_nI, sU_s, sU_n, sU_sU, hc2, hσ, h0, nI_1, ct0]
    · exact ⟨ns + 1, nb, nr, nv, ⟨⟨(by simp (disch := omega) only [sU_n, sU_s]), (by (try simp (disch := omega) only [sU_n, sU_s]); exact h1), (by (try simp (disch := omega) only [sU_n, sU_s]); exact h2), (by (try simp (disch := omega) only [sU_n, sU_s]); exact h3), (by omega), hb16, hr8, hv2⟩, ⟨tm, (by (try simp (disch := omega) only [sU_n, sU_s]); exact h4), ht⟩, ⟨⟨t5, (by (try simp (disch := omega) only [sU_n, sU_s]); exact h5), ht5⟩, ⟨t6, (by (try simp (disch := omega) only [sU_n, sU_s]); exact h6), ht6, ht6b⟩, ⟨t7, (by (try simp (disch := omega) only [sU_n, sU_s]); exact h7), ht7⟩⟩, (fun k hk => by
        by_cases e : k = ns
        · subst e
          exact ⟨x1, (by simp (disch := omega) only [sU_n, sU_s]), hx1⟩
        · simp (disch := omega) only [sU_n, sU_s]
          exact hpl k (by omega)), (fun k hk => by
        have hcw : cw (sU (sU (sU (sU (sU g (8 + 4 * ns) (nI x1)) (8 + 4 * ns + 1) (nI x2)) (8 + 4 * ns + 2) 0) (8 + 4 * ns + 3) 0) 0 (nI (ns + 1))) 0 (nI k) nb = cw g 0 (nI k) nb := cw_congr nb (fun j hj => by constructor <;> simp (disch := omega) only [sU_n, sU_s])
        rw [hcw]
        by_cases e : k = ns
        · subst e
          refine ⟨x2, ?_, hx2, hx3, ?_⟩
          · simp (disch := omega) only [sU_n, sU_s]
          · rw [cw_zero nb]
            · exact Nat.zero_le _
            · intro j hj q
              rcases (hbc j hj).1 with ⟨z, i, hi, hz⟩ | ⟨z, -⟩ | ⟨z, -⟩ | ⟨z, -⟩
              · rw [hz] at q
                have := (nI_eq (by omega) (by omega)).mp q.2
                omega
              · rw [z] at q; exact absurd q.1 (by decide)
              · rw [z] at q; exact absurd q.1 (by decide)
              · rw [z] at q; exact absurd q.1 (by decide)
        · simp (disch := omega) only [sU_n, sU_s]
          exact hdk k (by omega)), (fun k hk => by
        simp (disch := omega) only [sU_n, sU_s]
        obtain ⟨q1, q2⟩ := hbc k hk
        refine ⟨?_, q2⟩
        rcases q1 with ⟨z, j, hj, hz⟩ | q | q | q
        · exact Or.inl ⟨z, j, by omega, hz⟩
        · exact Or.inr (Or.inl q)
        · exact Or.inr (Or.inr (Or.inl q))
        · exact Or.inr (Or.inr (Or.inr q))), (fun k9 hk9 => RD_congr (fun w hw => by (try simp (disch := omega) only [sU_n, sU_s])) (hrd k9 hk9)), (fun k hk => by
        have hcw : cw (sU (sU (sU (sU (sU g (8 + 4 * ns) (nI x1)) (8 + 4 * ns + 1) (nI x2)) (8 + 4 * ns + 2) 0) (8 + 4 * ns + 3) 0) 0 (nI (ns + 1))) 2 (nI k) nb = cw g 2 (nI k) nb := cw_congr nb (fun j hj => by constructor <;> simp (disch := omega) only [sU_n, sU_s])
        rw [hcw]
        simp (disch := omega) only [sU_n, sU_s]
        obtain ⟨⟨j, hj, hz⟩, q⟩ := hvn k hk
        exact ⟨⟨j, by omega, hz⟩, q⟩), (fun k hk hk2 => by simp (disch := omega) only [sU_n, sU_s]; exact hzS k (by omega) hk2), (fun k9 hk9 hk92 => by (try simp (disch := omega) only [sU_n, sU_s]); exact hzB k9 hk9 hk92), (fun k9 hk9 hk92 => by (try simp (disch := omega) only [sU_n, sU_s]); exact hzR k9 hk9 hk92), (fun k9 hk9 => by (try simp (disch := omega) only [sU_n, sU_s]); exact hzV k9 hk9)⟩⟩
    · exact ⟨⟨(by simp (disch := omega) only [sU_n, sU_s]), (by (try simp (disch := omega) only [sU_n, sU_s]); exact a1), (by (try simp (disch := omega) only [sU_n, sU_s]); exact a2), (by (try simp (disch := omega) only [sU_n, sU_s]); exact a3), (by (try simp (disch := omega) only [sU_n, sU_s]); exact a4), (fun i hi => by (try simp (disch := omega) only [sU_n, sU_s]); exact a5 i hi)⟩, ⟨(fun k9 hk9 => by
    by_cases e : k9 = ns
    · subst e
      (try simp (disch := omega) only [sU_n, sU_s])
      all_goals (first | rfl | exact s0 _ hk9)
    · (try simp (disch := omega) only [sU_n, sU_s])
      exact s0 k9 hk9), (fun k9 hk9 => by
    by_cases e : k9 = ns
    · subst e
      (try simp (disch := omega) only [sU_n, sU_s])
      all_goals (first | rfl | exact s1 _ hk9)
    · (try simp (disch := omega) only [sU_n, sU_s])
      exact s1 k9 hk9), (fun k9 hk9 => by
    by_cases e : k9 = ns
    · subst e
      (try simp (disch := omega) only [sU_n, sU_s])
      all_goals (exact (s2 _ hk9).trans (hzS _ (Nat.le_refl _) hk9).1)
    · (try simp (disch := omega) only [sU_n, sU_s])
      exact s2 k9 hk9), (fun k9 hk9 => by
    by_cases e : k9 = ns
    · subst e
      (try simp (disch := omega) only [sU_n, sU_s])
      all_goals (exact (s3 _ hk9).trans (hzS _ (Nat.le_refl _) hk9).2)
    · (try simp (disch := omega) only [sU_n, sU_s])
      exact s3 k9 hk9)⟩, ⟨(fun k9 hk9 => by (try simp (disch := omega) only [sU_n, sU_s]); exact b0 k9 hk9), (fun k9 hk9 => by (try simp (disch := omega) only [sU_n, sU_s]); exact b1 k9 hk9), (fun k9 hk9 => by (try simp (disch := omega) only [sU_n, sU_s]); exact b2 k9 hk9), (fun k9 hk9 => by (try simp (disch := omega) only [sU_n, sU_s]); exact b3 k9 hk9), (fun k9 hk9 => by (try simp (disch := omega) only [sU_n, sU_s]); exact b4 k9 hk9), (fun k9 hk9 => by (try simp (disch := omega) only [sU_n, sU_s]); exact b5 k9 hk9)⟩, ⟨(fun k9 hk9 => by (try simp (disch := omega) only [sU_n, sU_s]); exact r0 k9 hk9), (fun k9 hk9 => by (try simp (disch := omega) only [sU_n, sU_s]); exact r1 k9 hk9), (fun k9 hk9 => by (try simp (disch := omega) only [sU_n, sU_s]); exact r2 k9 hk9), (fun k9 hk9 => by (try simp (disch := omega) only [sU_n, sU_s]); exact r3 k9 hk9), (fun k9 hk9 => by (try simp (disch := omega) only [sU_n, sU_s]); exact r4 k9 hk9), (fun k9 hk9 => by (try simp (disch := omega) only [sU_n, sU_s]); exact r5 k9 hk9), (fun k9 hk9 => by (try simp (disch := omega) only [sU_n, sU_s]); exact r6 k9 hk9), (fun k9 hk9 => by (try simp (disch := omega) only [sU_n, sU_s]); exact r7 k9 hk9), (fun k9 hk9 => by (try simp (disch := omega) only [sU_n, sU_s]); exact r8 k9 hk9)⟩, ⟨(fun k9 hk9 => by (try simp (disch := omega) only [sU_n, sU_s]); exact v0 k9 hk9), (fun k9 hk9 => by (try simp (disch := omega) only [sU_n, sU_s]); exact v1 k9 hk9), (fun k9 hk9 => by (try simp (disch := omega) only [sU_n, sU_s]); exact v2 k9 hk9)⟩⟩
