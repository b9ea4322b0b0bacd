/-! MATH 8: the changes: rent, back -/
def bs (g : T1) (s : Int32) : Nat → Option Nat
  | 0 => none
  | n + 1 => if g (32 + 6 * n) = 0 ∧ g (32 + 6 * n + 1) = s ∧ g (32 + 6 * n + 3) = 0 then (match bs g s n with
    | none => some n
    | some b => if g (32 + 6 * b + 2) ≤ g (32 + 6 * n + 2) then some b else some n) else bs g s n
def ob (d : Int32) (o : Option Nat) : Int32 := match o with
  | none => d
  | some b => nI b
theorem bs_lt {g : T1} {s : Int32} : ∀ (n b : Nat), bs g s n = some b → b < n
  | 0, b, h => by cases h
  | n + 1, b, h => by
    rw [bs] at h
    split at h
    · split at h
      · cases h; omega
      · rename_i b2 hb2
        have := bs_lt n b2 hb2
        split at h <;> cases h <;> omega
    · have := bs_lt n b h
      omega
theorem bs_no {g : T1} {s : Int32} {n : Nat} (h : ¬ (g (32 + 6 * n) = 0 ∧ g (32 + 6 * n + 1) = s ∧ g (32 + 6 * n + 3) = 0)) : bs g s (n + 1) = bs g s n := by rw [bs, if_neg h]
theorem M_best_step {σ : T2} {r p2 : Int32} {K : T2 → Int32 → Int32 → Option (Int32 × T2)} {j : Nat} (hj : j < 16) (h : σ 0 (32 + 6 * j) = 0 ∧ σ 0 (32 + 6 * j + 1) = p2 ∧ σ 0 (32 + 6 * j + 3) = 0) : fX11_rent_71 K r p2 σ (ob (-4) (bs (σ 0) p2 j)) (nI j) 1 = K σ (ob (-4) (bs (σ 0) p2 (j + 1))) (nI (j + 1)) := by
  rw [fX11_rent_71, if_neg ne10, bs, if_pos h]
  cases e : bs (σ 0) p2 j with
  | none =>
    rw [show ob (-4) none = -4 from rfl, if_pos (by decide)]
    unfold fX11_rent_98 fX11_rent_104
    rw [nI_1]
    rfl
  | some b =>
    have hb := bs_lt j b e
    rw [show ob (-4) (some b) = nI b from rfl, if_neg (nI_pos (by omega)), M_ofB2 hj, bd_s, M_ofB2 (by omega), bd_s]
    show (if σ 0 (32 + 6 * b + 2) ≤ σ 0 (32 + 6 * j + 2) then _ else _) = K σ (ob (-4) (if σ 0 (32 + 6 * b + 2) ≤ σ 0 (32 + 6 * j + 2) then some b else some j)) (nI (j + 1))
    by_cases c : σ 0 (32 + 6 * b + 2) ≤ σ 0 (32 + 6 * j + 2)
    · rw [if_pos c, if_pos c]
      unfold fX11_rent_103 fX11_rent_104
      rw [nI_1]
      rfl
    · rw [if_neg c, if_neg c]
      unfold fX11_rent_98 fX11_rent_104
      rw [nI_1]
      rfl
theorem M_best_skip {σ : T2} {r p2 : Int32} {K : T2 → Int32 → Int32 → Option (Int32 × T2)} {j : Nat} (h : ¬ (σ 0 (32 + 6 * j) = 0 ∧ σ 0 (32 + 6 * j + 1) = p2 ∧ σ 0 (32 + 6 * j + 3) = 0)) : fX11_rent_70 K r p2 σ (ob (-4) (bs (σ 0) p2 j)) (nI j) = K σ (ob (-4) (bs (σ 0) p2 (j + 1))) (nI (j + 1)) := by
  rw [bs_no h]
  unfold fX11_rent_70 fX11_rent_71
  rw [if_pos rfl]
  unfold fX11_rent_103 fX11_rent_104
  rw [nI_1]
theorem M_best {σ : T2} {nb : Nat} {r p2 : Int32} (hb : σ 0 1 = nI nb) (h16 : nb ≤ 16) : ∀ (n j : Nat), j ≤ nb → nb - j < n → ∃ n', fX11_rent_24 r p2 n σ (ob (-4) (bs (σ 0) p2 j)) (nI j) = fX11_rent_24 r p2 (n' + 1) σ (ob (-4) (bs (σ 0) p2 nb)) (nI nb) := by
  intro n
  induction n with
  | zero => intro j h1 h2; omega
  | succ n ih =>
    intro j h1 h2
    by_cases hj : j = nb
    · subst hj
      exact ⟨n, rfl⟩
    · obtain ⟨n', hn⟩ := ih (j + 1) (by omega) (by omega)
      refine ⟨n', Eq.trans ?_ hn⟩
      rw [fX11_rent_24, ct1, hb, if_neg (nI_ge (by omega) (by omega)), M_ofB0 (by omega), bd_s]
      by_cases c1 : σ 0 (32 + 6 * j) = 0
      · rw [if_pos c1, M_ofB1 (by omega), bd_s]
        by_cases c2 : σ 0 (32 + 6 * j + 1) = p2
        · rw [if_pos c2, M_ofB3 (by omega), bd_s]
          by_cases c3 : σ 0 (32 + 6 * j + 3) = 0
          · rw [if_pos c3]; exact M_best_step (by omega) ⟨c1, c2, c3⟩
          · rw [if_neg c3]; exact M_best_skip (fun q => c3 q.2.2)
        · rw [if_neg c2]; exact M_best_skip (fun q => c2 q.2.1)
      · rw [if_neg c1]; exact M_best_skip (fun q => c1 q.1)
theorem X_best_lp {p : T3} {g : T1} {ns nb nr nv s : Nat} (hI : IG g ns nb nr nv) (hR : RR p g) (hs : s < 1000) : ∀ (n j : Nat), j ≤ nb → nb - j < n → fX1_leastRiddenAt_4 (p 1) (nI s) n (ob (-1) (bs g (nI s) j)) (nI j) = some (ob (-1) (bs g (nI s) nb)) := by
  have h16 : nb ≤ 16 := hI.1.2.2.2.2.2.1
  have hb : p 1 6 0 = nI nb := hR.1.2.1.trans hI.1.2.1
  intro n
  induction n with
  | zero => intro j h1 h2; omega
  | succ n ih =>
    intro j h1 h2
    rw [fX1_leastRiddenAt_4, hb]
    by_cases hj : j = nb
    · subst hj
      rw [if_pos (nI_le (Nat.le_refl _) (by omega))]
    · have skip : ∀ (_ : ¬ (g (32 + 6 * j) = 0 ∧ g (32 + 6 * j + 1) = nI s ∧ g (32 + 6 * j + 3) = 0)), fX1_leastRiddenAt_35 (fX1_leastRiddenAt_4 (p 1) (nI s) n) (p 1) (nI s) (ob (-1) (bs g (nI s) j)) (nI j) = some (ob (-1) (bs g (nI s) nb)) := fun h => by
        unfold fX1_leastRiddenAt_35 fX1_leastRiddenAt_36
        rw [if_pos rfl]
        unfold fX1_leastRiddenAt_64
        rw [nI_1, ← bs_no h]
        exact ih (j + 1) (by omega) (by omega)
      rw [if_neg (nI_ge (by omega) (by omega)), X_isAt hI hR (by omega) hs, bd_s]
      by_cases c1 : atN g j 0 (nI s) = 0
      · rw [if_pos c1]
        refine skip (fun q => ?_)
        unfold atN at c1
        rw [if_pos ⟨q.1, q.2.1⟩] at c1
        exact ne10 c1
      · obtain ⟨q1, q2⟩ := at_1 c1
        rw [if_neg c1, gi_nI (by omega) (by decide), cl_nI (by omega), hR.2.2.1.2.2.2.1 j (by omega)]
        by_cases c3 : g (32 + 6 * j + 3) = 0
        · rw [if_pos c3]
          have hn := ih (j + 1) (by omega) (by omega)
          rw [bs, if_pos ⟨q1, q2, c3⟩] at hn
          rw [fX1_leastRiddenAt_36, if_neg ne10]
          cases e : bs g (nI s) j with
          | none =>
            rw [e] at hn
            rw [show ob (-1) none = -1 from rfl, if_pos (by decide)]
            unfold fX1_leastRiddenAt_62 fX1_leastRiddenAt_64
            rw [nI_1]
            exact hn
          | some b =>
            have hb2 := bs_lt j b e
            rw [e] at hn
            rw [show ob (-1) (some b) = nI b from rfl, if_neg (nI_pos (by omega)), gi_nI (by omega) (by decide), gi_nI (by omega) (by decide), cl_nI (by omega), cl_nI (by omega), hR.2.2.1.2.2.1 j (by omega), hR.2.2.1.2.2.1 b (by omega)]
            have hn2 : fX1_leastRiddenAt_4 (p 1) (nI s) n (ob (-1) (if g (32 + 6 * b + 2) ≤ g (32 + 6 * j + 2) then some b else some j)) (nI (j + 1)) = some (ob (-1) (bs g (nI s) nb)) := hn
            by_cases c : g (32 + 6 * b + 2) ≤ g (32 + 6 * j + 2)
            · rw [if_pos c] at hn2
              rw [if_pos c]
              unfold fX1_leastRiddenAt_64
              rw [nI_1]
              exact hn2
            · rw [if_neg c] at hn2
              rw [if_neg c]
              unfold fX1_leastRiddenAt_62 fX1_leastRiddenAt_64
              rw [nI_1]
              exact hn2
        · rw [if_neg c3]
          exact skip (fun q => c3 q.2.2)
theorem X_best {p : T3} {g : T1} {ns nb nr nv s : Nat} (hI : IG g ns nb nr nv) (hR : RR p g) (hs : s < 1000) : fX1_leastRiddenAt (p 1) (nI s) = some (ob (-1) (bs g (nI s) nb)) := X_best_lp hI hR hs fuel 0 (by omega) (by unfold fuel; have : nb ≤ 16 := hI.1.2.2.2.2.2.1; omega)
theorem X_bringB {B : T2} {nb b : Nat} {x y : Int32} (hB : B 6 0 = nI nb) (h16 : nb ≤ 16) (hb : b < nb) : fX1_bring B (nI b) x y = some (sU (sU B 0 (sU (B 0) b x)) 1 (sU (B 1) b y)) := by
  have q : fX1_has B (nI b) = some 1 := by
    rw [← hs_t hb (by omega)]
    unfold fX1_has hs
    rw [hB]
  rw [fX1_bring, q, bd_s, if_neg ne10]
  simp (disch := omega) only [bd_s, bn_s, gi_nI, cl_nI, sU_s, sU_n, sU_sU, nI_1, nI_pred]
set_option maxHeartbeats 8000000 in
theorem op_rent {p : T3} {g : T1} (hI : OK g) (hR : RR p g) (p1 p2 : Int32) : OPR g (fX5_beginRide p p1 p2) (fun σ => fX11_rent σ p1 p2) := by
  obtain ⟨ns, nb, nr, nv, hI⟩ := hI
  obtain ⟨⟨h0, h1, h2, h3, hs6, hb16, hr8, hv2⟩, ⟨tm, h4, ht⟩, ⟨⟨t5, h5, ht5⟩, ⟨t6, h6, ht6, ht6b⟩, ⟨t7, h7, ht7⟩⟩, hpl, hdk, hbc, hrd, hvn, hzS, hzB, hzR, hzV⟩ := id hI
  obtain ⟨⟨a0, a1, a2, a3, a4, a5⟩, ⟨s0, s1, s2, s3⟩, ⟨b0, b1, b2, b3, b4, b5⟩, ⟨r0, r1, r2, r3, r4, r5, r6, r7, r8⟩, ⟨v0, v1, v2⟩⟩ := id hR
  by_cases hr : inN p1 nr
  case neg =>
    refine opr_e (-1) (by decide) (p' := p) ?_ (fun σ σc hσ _ => ?_)
    · rw [fX5_beginRide, X4_has hI hR, hs_f hr (by omega), bd_s, if_pos rfl]
    · rw [fX11_rent, M_isRider (by rw [hσ]; exact h2), hs_f hr (by omega), bd_s, if_pos rfl]
  obtain ⟨r, hr, rfl⟩ := hr
  have Xr : fX4_has (p 2) (nI r) = some 1 := by rw [X4_has hI hR, hs_t hr (by omega)]
  have Mr : ∀ σ : T2, σ 0 = g → fX11_isRider σ (nI r) = some 1 := fun σ hσ => by rw [M_isRider (by rw [hσ]; exact h2), hs_t hr (by omega)]
  by_cases hk : inN p2 ns
  case neg =>
    refine opr_e (-1) (by decide) (p' := p) ?_ (fun σ σc hσ _ => ?_)
    · rw [fX5_beginRide, Xr, bd_s, if_neg ne10, X6_has hI hR, hs_f hk (by omega), bd_s, if_pos rfl]
    · rw [fX11_rent, Mr σ hσ, bd_s, if_neg ne10, M_isStation (by rw [hσ]; exact h0), hs_f hk (by omega), bd_s, if_pos rfl]
  obtain ⟨k, hk, rfl⟩ := hk
  have Xk : fX6_has (p 0) (nI k) = some 1 := by rw [X6_has hI hR, hs_t hk (by omega)]
  have Mk : ∀ σ : T2, σ 0 = g → fX11_isStation σ (nI k) = some 1 := fun σ hσ => by rw [M_isStation (by rw [hσ]; exact h0), hs_t hk (by omega)]
  have M2 : ∀ σ : T2, σ 0 = g → fX11_rides σ (nI r) = some (rdN g r) := fun σ hσ => by rw [M_rides (nb := nb) (by omega) (by rw [hσ]; exact hrd r hr) hb16, hσ]
  have M1 : ∀ σ : T2, σ 0 = g → ∃ n', fX11_rent σ (nI r) (nI k) = fX11_rent_24 (nI r) (nI k) (n' + 1) σ (ob (-4) (bs g (nI k) nb)) (nI nb) := fun σ hσ => by
    rw [fX11_rent, Mr σ hσ, bd_s, if_neg ne10, Mk σ hσ, bd_s, if_neg ne10]
    obtain ⟨n', hn⟩ := M_best (σ := σ) (nb := nb) (r := nI r) (p2 := nI k) (by rw [hσ]; exact h1) hb16 fuel 0 (by omega) (by unfold fuel; omega)
    rw [hσ] at hn
    exact ⟨n', hn⟩
  obtain ⟨q1, ⟨u, hu, hu2⟩, q3, q4, q5⟩ := id (hrd r hr)
  have q2 : ∃ u, g (128 + 9 * r + 1) = nI u ∧ u ≤ 20000 := ⟨u, hu, hu2⟩
  by_cases c1 : rdN g r = 0
  case neg =>
    refine opr_e (-2) (by decide) (p' := p) ?_ (fun σ σc hσ _ => ?_)
    · rw [fX5_beginRide, Xr, bd_s, if_neg ne10, Xk, bd_s, if_neg ne10, X_best hI hR (by omega), bd_s, X_hasRide hI hR hr, bd_s, if_neg c1]
    · obtain ⟨n', hn⟩ := M1 σ hσ
      rw [hn, fX11_rent_24, ct1, hσ, h1, if_pos (nI_le (Nat.le_refl _) (by omega)), M2 σ hσ, bd_s, if_neg c1]
  cases hb : bs g (nI k) nb with
  | none =>
    refine opr_e (-2) (by decide) (p' := p) ?_ (fun σ σc hσ _ => ?_)
    · rw [fX5_beginRide, Xr, bd_s, if_neg ne10, Xk, bd_s, if_neg ne10, X_best hI hR (by omega), bd_s, X_hasRide hI hR hr, bd_s, if_pos c1, hb, X1_has hI hR, show hs (ob (-1) none) nb = some 0 by unfold hs; rw [if_pos (by decide)], bd_s, if_pos rfl]
    · obtain ⟨n', hn⟩ := M1 σ hσ
      rw [hn, hb, fX11_rent_24, ct1, hσ, h1, if_pos (nI_le (Nat.le_refl _) (by omega)), M2 σ hσ, bd_s, if_pos c1, if_neg (by decide)]
  | some b =>
  have hb2 := bs_lt nb b hb
  have X1 : fX5_beginRide p (nI r) (nI k) = (if nI u ≤ nI tm then fX5_beginRide_79 (nI r) (nI k) p (nI b) 0 else fX5_beginRide_79 (nI r) (nI k) p (nI b) 1) := by
    rw [fX5_beginRide, Xr, bd_s, if_neg ne10, Xk, bd_s, if_neg ne10, X_best hI hR (by omega), bd_s, X_hasRide hI hR hr, bd_s, if_pos c1, hb, show ob (-1) (some b) = nI b from rfl, X1_has hI hR, hs_t hb2 (by omega), bd_s, if_neg ne10, gi_nI (by omega) (by decide), cl_nI (by omega), r1 r (by omega), hu, a4.trans h4]
  have M0 : ∀ σ : T2, σ 0 = g → fX11_rent σ (nI r) (nI k) = (bd (fX11_changes σ) (fun q127 => bd (fX11_puts q127 (nI b) (1 : Int32) (nI r)) (fun q134 => gi (((128 : Int32) + ((9 : Int32) * (nI r))) + 2) 206 (bn (sU q134 0 (sU (q134 0) (((128 : Int32) + ((9 : Int32) * (nI r))) + 2).toNatClampNeg (nI b))) (fun S1_156 => gi (((128 : Int32) + ((9 : Int32) * (nI r))) + 3) 206 (bn (sU S1_156 0 (sU (S1_156 0) (((128 : Int32) + ((9 : Int32) * (nI r))) + 3).toNatClampNeg (S1_156 0 (4 : Int32).toNatClampNeg))) (fun S1_171 => bd (fX11_hasPass S1_171 (nI r)) (fun q182 => if q182 = 0 then (fX11_rent_193 (nI r) (nI k) S1_171 (nI b) ((128 : Int32) + ((9 : Int32) * (nI r))) (((128 : Int32) + ((9 : Int32) * (nI r))) + 5) 0) else (fX11_rent_193 (nI r) (nI k) S1_171 (nI b) ((128 : Int32) + ((9 : Int32) * (nI r))) (((128 : Int32) + ((9 : Int32) * (nI r))) + 5) 1))))))))) := fun σ hσ => by
    obtain ⟨n', hn⟩ := M1 σ hσ
    rw [hn, hb, show ob (-4) (some b) = nI b from rfl, fX11_rent_24, ct1, hσ, h1, if_pos (nI_le (Nat.le_refl _) (by omega)), M2 σ hσ, bd_s, if_pos c1, if_pos (nI_pos' (by omega))]
  by_cases c : u ≤ tm
  · skip
    refine opr_o (nI b) (sU (sU (sU (sU (sU (sU (sU (sU g (32 + 6 * b) 1) (32 + 6 * b + 1) (nI r)) (128 + 9 * r + 2) (nI b)) (128 + 9 * r + 3) (nI tm)) (128 + 9 * r + 5) 0) (128 + 9 * r + 4) (nI 0)) (128 + 9 * r + 6) 0) (8 + 4 * k + 2) (g (8 + 4 * k + 2) + 1)) (nI_pos (by omega)) (p' := sU (sU (sU p 2 (sU (sU (sU (sU (sU (p 2) 4 (sU (p 2 4) r (nI b))) 5 (sU (p 2 5) r (nI tm))) 6 (sU (p 2 6) r (nI 0))) 7 (sU (p 2 7) r 1)) 8 (sU (p 2 8) r 0))) 1 (sU (sU (p 1) 0 (sU (p 1 0) b 1)) 1 (sU (p 1 1) b (nI r)))) 0 (sU (p 0) 2 (sU (p 0 2) k (g (8 + 4 * k + 2) + 1)))) ?_ (fun σ σc hσ hC => ?_) ⟨ns, nb, nr, nv, ?_⟩ ?_
    · rw [X1, if_pos (nI_le c (by omega))]
      unfold fX5_beginRide_79 fX5_beginRide_127 fX5_beginRide_146
      simp (disch := omega) only [bd_s, bn_s, gi_nI, cl_nI, sU_s, sU_n, sU_sU, nI_1, nI_pred, i10, i00, ite_true, ite_false, X_bring hI hR hb2, ct0]
      rw [a4.trans h4, s2 k (by omega)]
      try rfl
    · obtain ⟨hc1, hc2⟩ := hC
      rw [M0 σ hσ, hc1, bd_s, M_puts (by omega), bd_s]
      simp (disch := omega) only [bd_s, bn_s, gi_nI, cl_nI, sU_s, sU_n, sU_sU, nI_1, nI_pred, ixR2, ixR3, ct4, hc2, hσ, h4, M_hasPass (show r < 8 by omega), hu]
      rw [if_pos (nI_le c (by omega)), bd_s, if_pos rfl]
      unfold fX11_rent_193
      simp (disch := omega) only [bd_s, bn_s, gi_nI, cl_nI, sU_s, sU_n, sU_sU, nI_1, nI_pred, ixR5, ct4, hc2, hσ, h4, M_hasPass (show r < 8 by omega), hu]
      rw [if_pos (nI_le c (by omega)), bd_s, if_pos rfl]
      unfold fX11_rent_220
      simp (disch := omega) only [bd_s, bn_s, gi_nI, cl_nI, sU_s, sU_n, sU_sU, nI_1, nI_pred, ixR4, ixR6, ixS2, ct5]
      try rfl
    · have hI1 : IG (sU (sU g (32 + 6 * b) 1) (32 + 6 * b + 1) (nI r)) ns nb nr nv := IG_puts hI hb2 (Or.inr (Or.inl ⟨rfl, r, hr, rfl⟩))
      have hI2 : IG (sU (sU (sU (sU (sU (sU (sU g (32 + 6 * b) 1) (32 + 6 * b + 1) (nI r)) (128 + 9 * r + 2) (nI b)) (128 + 9 * r + 3) (nI tm)) (128 + 9 * r + 5) 0) (128 + 9 * r + 4) (nI 0)) (128 + 9 * r + 6) 0) ns nb nr nv := by
        refine IG_rid hI1 hr (fun i hi => by simp (disch := omega) only [sU_n, sU_s]) ?_
        unfold RD
        simp (disch := omega) only [sU_n, sU_s]
        exact ⟨Or.inr ⟨b, hb2, rfl⟩, q2, ⟨tm, rfl, ht⟩, ⟨0, 0, rfl, by omega, rfl, by omega⟩, by decide⟩
      have hI3 := IG_free (i := 8 + 4 * k + 2) (v := g (8 + 4 * k + 2) + 1) hI2 (by omega) (by intros; omega) (by intros; omega) (by intros; omega) (by intros; omega)
      exact hI3
    · exact ⟨⟨(by (try simp (disch := omega) only [sU_n, sU_s]); exact a0), (by (try simp (disch := omega) only [sU_n, sU_s]); exact a1), (by (try simp (disch := omega) only [sU_n, sU_s]); exact a2), (by (try simp (disch := omega) only [sU_n, sU_s]); exact a3), (by (try simp (disch := omega) only [sU_n, sU_s]); exact a4), (fun i hi => by (try simp (disch := omega) only [sU_n, sU_s]); exact a5 i hi)⟩, ⟨(fun k9 hk9 => by
    by_cases e : k9 = k
    · subst e
      (try simp (disch := omega) only [sU_n, sU_s])
      all_goals (first | rfl | exact s0 _ hk9)
    · (try simp (disch := omega) only [sU_n, sU_s])
      exact s0 k9 hk9), (fun k9 hk9 => by
    by_cases e : k9 = k
    · subst e
      (try simp (disch := omega) only [sU_n, sU_s])
      all_goals (first | rfl | exact s1 _ hk9)
    · (try simp (disch := omega) only [sU_n, sU_s])
      exact s1 k9 hk9), (fun k9 hk9 => by
    by_cases e : k9 = k
    · subst e
      (try simp (disch := omega) only [sU_n, sU_s])
      all_goals (first | rfl | exact s2 _ hk9)
    · (try simp (disch := omega) only [sU_n, sU_s])
      exact s2 k9 hk9), (fun k9 hk9 => by
    by_cases e : k9 = k
    · subst e
      (try simp (disch := omega) only [sU_n, sU_s])
      all_goals (first | rfl | exact s3 _ hk9)
    · (try simp (disch := omega) only [sU_n, sU_s])
      exact s3 k9 hk9)⟩, ⟨(fun k9 hk9 => by
    by_cases e : k9 = b
    · subst e
      (try simp (disch := omega) only [sU_n, sU_s])
      all_goals (first | rfl | exact b0 _ hk9)
    · (try simp (disch := omega) only [sU_n, sU_s])
      exact b0 k9 hk9), (fun k9 hk9 => by
    by_cases e : k9 = b
    · subst e
      (try simp (disch := omega) only [sU_n, sU_s])
      all_goals (exact ((mp_nI (by omega)).mpr rfl).symm)
    · (try simp (disch := omega) only [sU_n, sU_s])
      exact b1 k9 hk9), (fun k9 hk9 => by
    by_cases e : k9 = b
    · subst e
      (try simp (disch := omega) only [sU_n, sU_s])
      all_goals (first | rfl | exact b2 _ hk9)
    · (try simp (disch := omega) only [sU_n, sU_s])
      exact b2 k9 hk9), (fun k9 hk9 => by
    by_cases e : k9 = b
    · subst e
      (try simp (disch := omega) only [sU_n, sU_s])
      all_goals (first | rfl | exact b3 _ hk9)
    · (try simp (disch := omega) only [sU_n, sU_s])
      exact b3 k9 hk9), (fun k9 hk9 => by
    by_cases e : k9 = b
    · subst e
      (try simp (disch := omega) only [sU_n, sU_s])
      all_goals (first | rfl | exact b4 _ hk9)
    · (try simp (disch := omega) only [sU_n, sU_s])
      exact b4 k9 hk9), (fun k9 hk9 => by
    by_cases e : k9 = b
    · subst e
      (try simp (disch := omega) only [sU_n, sU_s])
      all_goals (first | rfl | exact b5 _ hk9)
    · (try simp (disch := omega) only [sU_n, sU_s])
      exact b5 k9 hk9)⟩, ⟨(fun k9 hk9 => by
    by_cases e : k9 = r
    · subst e
      (try simp (disch := omega) only [sU_n, sU_s])
      all_goals (first | rfl | exact r0 _ hk9)
    · (try simp (disch := omega) only [sU_n, sU_s])
      exact r0 k9 hk9), (fun k9 hk9 => by
    by_cases e : k9 = r
    · subst e
      (try simp (disch := omega) only [sU_n, sU_s])
      all_goals (first | rfl | exact r1 _ hk9)
    · (try simp (disch := omega) only [sU_n, sU_s])
      exact r1 k9 hk9), (fun k9 hk9 => by
    by_cases e : k9 = r
    · subst e
      (try simp (disch := omega) only [sU_n, sU_s])
      all_goals (first | rfl | exact r2 _ hk9)
    · (try simp (disch := omega) only [sU_n, sU_s])
      exact r2 k9 hk9), (fun k9 hk9 => by
    by_cases e : k9 = r
    · subst e
      (try simp (disch := omega) only [sU_n, sU_s])
      all_goals (first | rfl | exact r3 _ hk9)
    · (try simp (disch := omega) only [sU_n, sU_s])
      exact r3 k9 hk9), (fun k9 hk9 => by
    by_cases e : k9 = r
    · subst e
      (try simp (disch := omega) only [sU_n, sU_s])
      all_goals (exact ((mp_nI (by omega)).mpr rfl).symm)
    · (try simp (disch := omega) only [sU_n, sU_s])
      exact r4 k9 hk9), (fun k9 hk9 => by
    by_cases e : k9 = r
    · subst e
      (try simp (disch := omega) only [sU_n, sU_s])
      all_goals (first | rfl | exact r5 _ hk9)
    · (try simp (disch := omega) only [sU_n, sU_s])
      exact r5 k9 hk9), (fun k9 hk9 => by
    by_cases e : k9 = r
    · subst e
      (try simp (disch := omega) only [sU_n, sU_s])
      all_goals (first | rfl | exact r6 _ hk9)
    · (try simp (disch := omega) only [sU_n, sU_s])
      exact r6 k9 hk9), (fun i hi => by
      by_cases e : i = r
      · subst e
        (try simp (disch := omega) only [sU_n, sU_s])
        exact Or.inr (Or.inl (by decide))
      · (try simp (disch := omega) only [sU_n, sU_s])
        exact r7 i hi), (fun k9 hk9 => by
    by_cases e : k9 = r
    · subst e
      (try simp (disch := omega) only [sU_n, sU_s])
      all_goals (first | rfl | exact r8 _ hk9)
    · (try simp (disch := omega) only [sU_n, sU_s])
      exact r8 k9 hk9)⟩, ⟨(fun k9 hk9 => by (try simp (disch := omega) only [sU_n, sU_s]); exact v0 k9 hk9), (fun k9 hk9 => by (try simp (disch := omega) only [sU_n, sU_s]); exact v1 k9 hk9), (fun k9 hk9 => by (try simp (disch := omega) only [sU_n, sU_s]); exact v2 k9 hk9)⟩⟩
  · skip
    refine opr_o (nI b) (sU (sU (sU (sU (sU (sU (sU (sU g (32 + 6 * b) 1) (32 + 6 * b + 1) (nI r)) (128 + 9 * r + 2) (nI b)) (128 + 9 * r + 3) (nI tm)) (128 + 9 * r + 5) 1) (128 + 9 * r + 4) (nI t5)) (128 + 9 * r + 6) 0) (8 + 4 * k + 2) (g (8 + 4 * k + 2) + 1)) (nI_pos (by omega)) (p' := sU (sU (sU p 2 (sU (sU (sU (sU (sU (p 2) 4 (sU (p 2 4) r (nI b))) 5 (sU (p 2 5) r (nI tm))) 6 (sU (p 2 6) r (nI t5))) 7 (sU (p 2 7) r 0)) 8 (sU (p 2 8) r 0))) 1 (sU (sU (p 1) 0 (sU (p 1 0) b 1)) 1 (sU (p 1 1) b (nI r)))) 0 (sU (p 0) 2 (sU (p 0 2) k (g (8 + 4 * k + 2) + 1)))) ?_ (fun σ σc hσ hC => ?_) ⟨ns, nb, nr, nv, ?_⟩ ?_
    · rw [X1, if_neg (nI_ge (by omega) (by omega))]
      unfold fX5_beginRide_79 fX5_beginRide_127 fX5_beginRide_146
      simp (disch := omega) only [bd_s, bn_s, gi_nI, cl_nI, sU_s, sU_n, sU_sU, nI_1, nI_pred, i10, i00, ite_true, ite_false, X_bring hI hR hb2, ct0]
      rw [a4.trans h4, s2 k (by omega), (a5 0 (by omega)).trans h5]
      try rfl
    · obtain ⟨hc1, hc2⟩ := hC
      rw [M0 σ hσ, hc1, bd_s, M_puts (by omega), bd_s]
      simp (disch := omega) only [bd_s, bn_s, gi_nI, cl_nI, sU_s, sU_n, sU_sU, nI_1, nI_pred, ixR2, ixR3, ct4, hc2, hσ, h4, M_hasPass (show r < 8 by omega), hu]
      rw [if_neg (nI_ge (by omega) (by omega)), bd_s, if_neg ne10]
      unfold fX11_rent_193
      simp (disch := omega) only [bd_s, bn_s, gi_nI, cl_nI, sU_s, sU_n, sU_sU, nI_1, nI_pred, ixR5, ct4, hc2, hσ, h4, M_hasPass (show r < 8 by omega), hu]
      rw [if_neg (nI_ge (by omega) (by omega)), bd_s, if_neg ne10]
      unfold fX11_rent_220
      simp (disch := omega) only [bd_s, bn_s, gi_nI, cl_nI, sU_s, sU_n, sU_sU, nI_1, nI_pred, ixR4, ixR6, ixS2, ct5, hc2, hσ, h5]
      try rfl
    · have hI1 : IG (sU (sU g (32 + 6 * b) 1) (32 + 6 * b + 1) (nI r)) ns nb nr nv := IG_puts hI hb2 (Or.inr (Or.inl ⟨rfl, r, hr, rfl⟩))
      have hI2 : IG (sU (sU (sU (sU (sU (sU (sU g (32 + 6 * b) 1) (32 + 6 * b + 1) (nI r)) (128 + 9 * r + 2) (nI b)) (128 + 9 * r + 3) (nI tm)) (128 + 9 * r + 5) 1) (128 + 9 * r + 4) (nI t5)) (128 + 9 * r + 6) 0) ns nb nr nv := by
        refine IG_rid hI1 hr (fun i hi => by simp (disch := omega) only [sU_n, sU_s]) ?_
        unfold RD
        simp (disch := omega) only [sU_n, sU_s]
        exact ⟨Or.inr ⟨b, hb2, rfl⟩, q2, ⟨tm, rfl, ht⟩, ⟨0, t5, rfl, by omega, rfl, by omega⟩, by decide⟩
      have hI3 := IG_free (i := 8 + 4 * k + 2) (v := g (8 + 4 * k + 2) + 1) hI2 (by omega) (by intros; omega) (by intros; omega) (by intros; omega) (by intros; omega)
      exact hI3
    · exact ⟨⟨(by (try simp (disch := omega) only [sU_n, sU_s]); exact a0), (by (try simp (disch := omega) only [sU_n, sU_s]); exact a1), (by (try simp (disch := omega) only [sU_n, sU_s]); exact a2), (by (try simp (disch := omega) only [sU_n, sU_s]); exact a3), (by (try simp (disch := omega) only [sU_n, sU_s]); exact a4), (fun i hi => by (try simp (disch := omega) only [sU_n, sU_s]); exact a5 i hi)⟩, ⟨(fun k9 hk9 => by
    by_cases e : k9 = k
    · subst e
      (try simp (disch := omega) only [sU_n, sU_s])
      all_goals (first | rfl | exact s0 _ hk9)
    · (try simp (disch := omega) only [sU_n, sU_s])
      exact s0 k9 hk9), (fun k9 hk9 => by
    by_cases e : k9 = k
    · subst e
      (try simp (disch := omega) only [sU_n, sU_s])
      all_goals (first | rfl | exact s1 _ hk9)
    · (try simp (disch := omega) only [sU_n, sU_s])
      exact s1 k9 hk9), (fun k9 hk9 => by
    by_cases e : k9 = k
    · subst e
      (try simp (disch := omega) only [sU_n, sU_s])
      all_goals (first | rfl | exact s2 _ hk9)
    · (try simp (disch := omega) only [sU_n, sU_s])
      exact s2 k9 hk9), (fun k9 hk9 => by
    by_cases e : k9 = k
    · subst e
      (try simp (disch := omega) only [sU_n, sU_s])
      all_goals (first | rfl | exact s3 _ hk9)
    · (try simp (disch := omega) only [sU_n, sU_s])
      exact s3 k9 hk9)⟩, ⟨(fun k9 hk9 => by
    by_cases e : k9 = b
    · subst e
      (try simp (disch := omega) only [sU_n, sU_s])
      all_goals (first | rfl | exact b0 _ hk9)
    · (try simp (disch := omega) only [sU_n, sU_s])
      exact b0 k9 hk9), (fun k9 hk9 => by
    by_cases e : k9 = b
    · subst e
      (try simp (disch := omega) only [sU_n, sU_s])
      all_goals (exact ((mp_nI (by omega)).mpr rfl).symm)
    · (try simp (disch := omega) only [sU_n, sU_s])
      exact b1 k9 hk9), (fun k9 hk9 => by
    by_cases e : k9 = b
    · subst e
      (try simp (disch := omega) only [sU_n, sU_s])
      all_goals (first | rfl | exact b2 _ hk9)
    · (try simp (disch := omega) only [sU_n, sU_s])
      exact b2 k9 hk9), (fun k9 hk9 => by
    by_cases e : k9 = b
    · subst e
      (try simp (disch := omega) only [sU_n, sU_s])
      all_goals (first | rfl | exact b3 _ hk9)
    · (try simp (disch := omega) only [sU_n, sU_s])
      exact b3 k9 hk9), (fun k9 hk9 => by
    by_cases e : k9 = b
    · subst e
      (try simp (disch := omega) only [sU_n, sU_s])
      all_goals (first | rfl | exact b4 _ hk9)
    · (try simp (disch := omega) only [sU_n, sU_s])
      exact b4 k9 hk9), (fun k9 hk9 => by
    by_cases e : k9 = b
    · subst e
      (try simp (disch := omega) only [sU_n, sU_s])
      all_goals (first | rfl | exact b5 _ hk9)
    · (try simp (disch := omega) only [sU_n, sU_s])
      exact b5 k9 hk9)⟩, ⟨(fun k9 hk9 => by
    by_cases e : k9 = r
    · subst e
      (try simp (disch := omega) only [sU_n, sU_s])
      all_goals (first | rfl | exact r0 _ hk9)
    · (try simp (disch := omega) only [sU_n, sU_s])
      exact r0 k9 hk9), (fun k9 hk9 => by
    by_cases e : k9 = r
    · subst e
      (try simp (disch := omega) only [sU_n, sU_s])
      all_goals (first | rfl | exact r1 _ hk9)
    · (try simp (disch := omega) only [sU_n, sU_s])
      exact r1 k9 hk9), (fun k9 hk9 => by
    by_cases e : k9 = r
    · subst e
      (try simp (disch := omega) only [sU_n, sU_s])
      all_goals (first | rfl | exact r2 _ hk9)
    · (try simp (disch := omega) only [sU_n, sU_s])
      exact r2 k9 hk9), (fun k9 hk9 => by
    by_cases e : k9 = r
    · subst e
      (try simp (disch := omega) only [sU_n, sU_s])
      all_goals (first | rfl | exact r3 _ hk9)
    · (try simp (disch := omega) only [sU_n, sU_s])
      exact r3 k9 hk9), (fun k9 hk9 => by
    by_cases e : k9 = r
    · subst e
      (try simp (disch := omega) only [sU_n, sU_s])
      all_goals (exact ((mp_nI (by omega)).mpr rfl).symm)
    · (try simp (disch := omega) only [sU_n, sU_s])
      exact r4 k9 hk9), (fun k9 hk9 => by
    by_cases e : k9 = r
    · subst e
      (try simp (disch := omega) only [sU_n, sU_s])
      all_goals (first | rfl | exact r5 _ hk9)
    · (try simp (disch := omega) only [sU_n, sU_s])
      exact r5 k9 hk9), (fun k9 hk9 => by
    by_cases e : k9 = r
    · subst e
      (try simp (disch := omega) only [sU_n, sU_s])
      all_goals (first | rfl | exact r6 _ hk9)
    · (try simp (disch := omega) only [sU_n, sU_s])
      exact r6 k9 hk9), (fun i hi => by
      by_cases e : i = r
      · subst e
        (try simp (disch := omega) only [sU_n, sU_s])
        exact Or.inr (Or.inl (by decide))
      · (try simp (disch := omega) only [sU_n, sU_s])
        exact r7 i hi), (fun k9 hk9 => by
    by_cases e : k9 = r
    · subst e
      (try simp (disch := omega) only [sU_n, sU_s])
      all_goals (first | rfl | exact r8 _ hk9)
    · (try simp (disch := omega) only [sU_n, sU_s])
      exact r8 k9 hk9)⟩, ⟨(fun k9 hk9 => by (try simp (disch := omega) only [sU_n, sU_s]); exact v0 k9 hk9), (fun k9 hk9 => by (try simp (disch := omega) only [sU_n, sU_s]); exact v1 k9 hk9), (fun k9 hk9 => by (try simp (disch := omega) only [sU_n, sU_s]); exact v2 k9 hk9)⟩⟩
