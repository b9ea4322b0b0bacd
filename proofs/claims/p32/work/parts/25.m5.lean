/-! MATH 5: the changes: pass, report, full, go -/
theorem M_hasPass {σ : T2} {k : Nat} (hk : k < 8) : fX11_hasPass σ (nI k) = if σ 0 (128 + 9 * k + 1) ≤ σ 0 4 then some 0 else some 1 := by
  rw [fX11_hasPass, M_ofR1 hk, bd_s, ct4]
theorem mx_i {u t : Nat} (hu : u < 2 ^ 31) (ht : t < 2 ^ 31) : (if nI t < nI u then nI u else nI t) = nI (if u ≤ t then t else u) := by
  by_cases c : u ≤ t
  · rw [if_neg (nI_nlt c ht), if_pos c]
  · rw [if_pos (nI_lt (by omega) hu), if_neg c]
set_option maxHeartbeats 4000000 in
theorem op_pass {p : T3} {g : T1} (hI : OK g) (hR : RR p g) (p1 : Int32) : OPR g (fX5_sellPass p p1) (fun σ => fX11_pass σ p1) := by
  obtain ⟨ns, nb, nr, nv, hI⟩ := hI
  obtain ⟨⟨h0, h1, h2, h3, hs6, hb16, hr8, hv2⟩, ⟨tm, h4, ht⟩, ⟨⟨t5, h5, ht5⟩, ⟨t6, h6, ht6, ht6b⟩, ⟨t7, h7, ht7⟩⟩, hpl, hdk, hbc, hrd, hvn, hzS, hzB, hzR, hzV⟩ := id hI
  obtain ⟨⟨a0, a1, a2, a3, a4, a5⟩, ⟨s0, s1, s2, s3⟩, ⟨b0, b1, b2, b3, b4, b5⟩, ⟨r0, r1, r2, r3, r4, r5, r6, r7, r8⟩, ⟨v0, v1, v2⟩⟩ := id hR
  by_cases hr : inN p1 nr
  case neg =>
    refine opr_e (-1) (by decide) (p' := p) ?_ (fun σ σc hσ _ => ?_)
    · rw [fX5_sellPass, X4_has hI hR, hs_f hr (by omega), bd_s, if_pos rfl]
    · rw [fX11_pass, M_isRider (by rw [hσ]; exact h2), hs_f hr (by omega), bd_s, if_pos rfl]
  obtain ⟨r, hr, rfl⟩ := hr
  have Xr : fX4_has (p 2) (nI r) = some 1 := by rw [X4_has hI hR, hs_t hr (by omega)]
  have Mr : ∀ σ : T2, σ 0 = g → fX11_isRider σ (nI r) = some 1 := fun σ hσ => by rw [M_isRider (by rw [hσ]; exact h2), hs_t hr (by omega)]
  obtain ⟨q1, ⟨u, hu, hu2⟩, q2⟩ := id (hrd r hr)
  obtain ⟨m, hm⟩ : ∃ m, m = (if u ≤ tm then tm else u) := ⟨_, rfl⟩
  have hm2 : m ≤ 20000 := by rw [hm]; split <;> omega
  have M1 : ∀ σ : T2, σ 0 = g → fX11_pass σ (nI r) = fX11_pass_33 (nI r) σ (nI m) := fun σ hσ => by
    rw [fX11_pass, Mr σ hσ, bd_s, if_neg ne10, M_hasPass (by omega), hσ, hu, h4]
    by_cases c : u ≤ tm
    · rw [if_pos (nI_le c (by omega)), bd_s, if_pos rfl, ct4, h4, hm, if_pos c]
    · rw [if_neg (nI_ge (by omega) (by omega)), bd_s, if_neg ne10, M_ofR1 (by omega), bd_s, hσ, hu, hm, if_neg c]
  have X1 : fX5_sellPass p (nI r) = (if nI m + 1000 ≤ 20000 then (some (nI (m + 1000), sU p 2 (sU (sU (sU (p 2) 1 (sU (p 2 1) r (nI (m + 1000)))) 2 (sU (p 2 2) r (p 2 2 r + p 4 0 2))) 0 (sU (p 2 0) r (p 2 0 r + p 4 0 2))))) else some ((-3), p)) := by
    rw [fX5_sellPass, Xr, bd_s, if_neg ne10, gi_nI (by omega) (by decide), cl_nI (by omega), a4.trans h4, (r1 r (by omega)).trans hu, mx_i (by omega) (by omega), ← hm]
    have e : nI m + 1000 = nI (m + 1000) := nI_add m 1000
    simp (disch := omega) only [bd_s, bn_s, gi_nI, cl_nI, sU_s, sU_n, sU_sU, nI_1, nI_pred, ct2]
    rw [e]
  by_cases c : m + 1000 ≤ 20000
  · have c2 : nI m + 1000 ≤ 20000 := by
      rw [show nI m + 1000 = nI (m + 1000) from nI_add m 1000]
      exact nI_le c (by decide)
    refine opr_o (nI (m + 1000)) (sU (sU (sU g (128 + 9 * r + 1) (nI (m + 1000))) (128 + 9 * r) (g (128 + 9 * r) + g 7)) (128 + 9 * r + 8) (g (128 + 9 * r + 8) + g 7)) (nI_pos (by omega)) (X1.trans (if_pos c2)) (fun σ σc hσ hC => ?_) ?_ ?_
    · obtain ⟨hc1, hc2⟩ := hC
      rw [M1 σ hσ, fX11_pass_33, if_pos c2, hc1, bd_s, show nI m + 1000 = nI (m + 1000) from nI_add m 1000]
      simp (disch := omega) only [bd_s, bn_s, gi_nI, cl_nI, sU_s, sU_n, sU_sU, nI_1, nI_pred, ixR0, ixR1, ixR8, hc2, hσ, ct7]
    · refine ⟨ns, nb, nr, nv, IG_rid hI hr (fun i hi => by simp (disch := omega) only [sU_n, sU_s]) ?_⟩
      unfold RD
      simp (disch := omega) only [sU_n, sU_s]
      exact ⟨q1, ⟨m + 1000, rfl, c⟩, q2⟩
    · exact ⟨⟨(by (try simp (disch := omega) only [sU_n, sU_s]); exact a0), (by (try simp (disch := omega) only [sU_n, sU_s]); exact a1), (by (try simp (disch := omega) only [sU_n, sU_s]); exact a2), (by (try simp (disch := omega) only [sU_n, sU_s]); exact a3), (by (try simp (disch := omega) only [sU_n, sU_s]); exact a4), (fun i hi => by (try simp (disch := omega) only [sU_n, sU_s]); exact a5 i hi)⟩, ⟨(fun k9 hk9 => by (try simp (disch := omega) only [sU_n, sU_s]); exact s0 k9 hk9), (fun k9 hk9 => by (try simp (disch := omega) only [sU_n, sU_s]); exact s1 k9 hk9), (fun k9 hk9 => by (try simp (disch := omega) only [sU_n, sU_s]); exact s2 k9 hk9), (fun k9 hk9 => by (try simp (disch := omega) only [sU_n, sU_s]); exact s3 k9 hk9)⟩, ⟨(fun k9 hk9 => by (try simp (disch := omega) only [sU_n, sU_s]); exact b0 k9 hk9), (fun k9 hk9 => by (try simp (disch := omega) only [sU_n, sU_s]); exact b1 k9 hk9), (fun k9 hk9 => by (try simp (disch := omega) only [sU_n, sU_s]); exact b2 k9 hk9), (fun k9 hk9 => by (try simp (disch := omega) only [sU_n, sU_s]); exact b3 k9 hk9), (fun k9 hk9 => by (try simp (disch := omega) only [sU_n, sU_s]); exact b4 k9 hk9), (fun k9 hk9 => by (try simp (disch := omega) only [sU_n, sU_s]); exact b5 k9 hk9)⟩, ⟨(fun k9 hk9 => by
    by_cases e : k9 = r
    · subst e
      (try simp (disch := omega) only [sU_n, sU_s])
      all_goals (rw [r0 _ hk9, a5 2 (by omega)])
    · (try simp (disch := omega) only [sU_n, sU_s])
      exact r0 k9 hk9), (fun k9 hk9 => by
    by_cases e : k9 = r
    · subst e
      (try simp (disch := omega) only [sU_n, sU_s])
      all_goals (first | rfl | exact r1 _ hk9)
    · (try simp (disch := omega) only [sU_n, sU_s])
      exact r1 k9 hk9), (fun k9 hk9 => by
    by_cases e : k9 = r
    · subst e
      (try simp (disch := omega) only [sU_n, sU_s])
      all_goals (rw [r2 _ hk9, a5 2 (by omega)])
    · (try simp (disch := omega) only [sU_n, sU_s])
      exact r2 k9 hk9), (fun k9 hk9 => by
    by_cases e : k9 = r
    · subst e
      (try simp (disch := omega) only [sU_n, sU_s])
      all_goals (first | rfl | exact r3 _ hk9)
    · (try simp (disch := omega) only [sU_n, sU_s])
      exact r3 k9 hk9), (fun k9 hk9 => by
    by_cases e : k9 = r
    · subst e
      (try simp (disch := omega) only [sU_n, sU_s])
      all_goals (first | rfl | exact r4 _ hk9)
    · (try simp (disch := omega) only [sU_n, sU_s])
      exact r4 k9 hk9), (fun k9 hk9 => by
    by_cases e : k9 = r
    · subst e
      (try simp (disch := omega) only [sU_n, sU_s])
      all_goals (first | rfl | exact r5 _ hk9)
    · (try simp (disch := omega) only [sU_n, sU_s])
      exact r5 k9 hk9), (fun k9 hk9 => by
    by_cases e : k9 = r
    · subst e
      (try simp (disch := omega) only [sU_n, sU_s])
      all_goals (first | rfl | exact r6 _ hk9)
    · (try simp (disch := omega) only [sU_n, sU_s])
      exact r6 k9 hk9), (fun k9 hk9 => by
    by_cases e : k9 = r
    · subst e
      (try simp (disch := omega) only [sU_n, sU_s])
      all_goals (first | rfl | exact r7 _ hk9)
    · (try simp (disch := omega) only [sU_n, sU_s])
      exact r7 k9 hk9), (fun k9 hk9 => by
    by_cases e : k9 = r
    · subst e
      (try simp (disch := omega) only [sU_n, sU_s])
      all_goals (first | rfl | exact r8 _ hk9)
    · (try simp (disch := omega) only [sU_n, sU_s])
      exact r8 k9 hk9)⟩, ⟨(fun k9 hk9 => by (try simp (disch := omega) only [sU_n, sU_s]); exact v0 k9 hk9), (fun k9 hk9 => by (try simp (disch := omega) only [sU_n, sU_s]); exact v1 k9 hk9), (fun k9 hk9 => by (try simp (disch := omega) only [sU_n, sU_s]); exact v2 k9 hk9)⟩⟩
  · have c2 : ¬ nI m + 1000 ≤ 20000 := by
      rw [show nI m + 1000 = nI (m + 1000) from nI_add m 1000]
      exact nI_ge (a := 20000) (by omega) (by omega)
    refine opr_e (-3) (by decide) (p' := p) (X1.trans (if_neg c2)) (fun σ σc hσ hC => ?_)
    rw [M1 σ hσ, fX11_pass_33, if_neg c2]
def cf (g : T1) : Nat → Int32
  | 0 => 0
  | n + 1 => cf g n + g (32 + 6 * n + 3)
theorem cf_nI {g : T1} : ∀ (n : Nat), (∀ k, k < n → g (32 + 6 * k + 3) = 0 ∨ g (32 + 6 * k + 3) = 1) → ∃ c, c ≤ n ∧ cf g n = nI c
  | 0, _ => ⟨0, Nat.le_refl _, rfl⟩
  | n + 1, h => by
    obtain ⟨c, h1, h2⟩ := cf_nI n (fun k hk => h k (by omega))
    rcases h n (by omega) with q | q
    · exact ⟨c, by omega, by rw [cf, q, h2]; exact nI_add c 0⟩
    · exact ⟨c + 1, by omega, by rw [cf, q, h2]; exact nI_add c 1⟩
theorem M_faulty_lp {σ : T2} {nb : Nat} (hb : σ 0 1 = nI nb) (h16 : nb ≤ 16) : ∀ (n j : Nat) (acc : Int32), j ≤ nb → nb - j < n → acc = cf (σ 0) j → fX11_faulty_4 σ n acc (nI j) = some (cf (σ 0) nb) := by
  intro n
  induction n with
  | zero => intro j acc h1 h2; omega
  | succ n ih =>
    intro j acc h1 h2 h3
    rw [fX11_faulty_4, ct1, hb]
    by_cases hj : j = nb
    · subst hj
      rw [if_pos (nI_le (Nat.le_refl _) (by omega)), h3]
    · rw [if_neg (nI_ge (by omega) (by omega)), M_ofB3 (by omega), bd_s, nI_1]
      exact ih (j + 1) _ (by omega) (by omega) (by rw [h3, cf])
theorem M_faulty {σ : T2} {nb : Nat} (hb : σ 0 1 = nI nb) (h16 : nb ≤ 16) : fX11_faulty σ = some (cf (σ 0) nb) := M_faulty_lp hb h16 fuel 0 _ (by omega) (by unfold fuel; omega) rfl
theorem X_faulty_lp {B : T2} {g : T1} {nb : Nat} (hb : B 6 0 = nI nb) (h16 : nb ≤ 16) (h0 : ∀ k, k < 16 → B 3 k = g (32 + 6 * k + 3)) : ∀ (n j : Nat) (acc : Int32), j ≤ nb → nb - j < n → acc = cf g j → fX1_countFaulty_4 B n acc (nI j) = some (cf g nb) := by
  intro n
  induction n with
  | zero => intro j acc h1 h2; omega
  | succ n ih =>
    intro j acc h1 h2 h3
    rw [fX1_countFaulty_4, hb]
    by_cases hj : j = nb
    · subst hj
      rw [if_pos (nI_le (Nat.le_refl _) (by omega)), h3]
    · rw [if_neg (nI_ge (by omega) (by omega)), gi_nI (by omega) (by decide), cl_nI (by omega), h0 j (by omega), nI_1]
      exact ih (j + 1) _ (by omega) (by omega) (by rw [h3, cf])
theorem X_faulty {B : T2} {g : T1} {nb : Nat} (hb : B 6 0 = nI nb) (h16 : nb ≤ 16) (h0 : ∀ k, k < 16 → B 3 k = g (32 + 6 * k + 3)) : fX1_countFaulty B = some (cf g nb) := X_faulty_lp hb h16 h0 fuel 0 _ (by omega) (by unfold fuel; omega) rfl
set_option maxHeartbeats 4000000 in
theorem op_report {p : T3} {g : T1} (hI : OK g) (hR : RR p g) (p1 : Int32) : OPR g (fX5_tellFaulty p p1) (fun σ => fX11_report σ p1) := by
  obtain ⟨ns, nb, nr, nv, hI⟩ := hI
  obtain ⟨⟨h0, h1, h2, h3, hs6, hb16, hr8, hv2⟩, ⟨tm, h4, ht⟩, ⟨⟨t5, h5, ht5⟩, ⟨t6, h6, ht6, ht6b⟩, ⟨t7, h7, ht7⟩⟩, hpl, hdk, hbc, hrd, hvn, hzS, hzB, hzR, hzV⟩ := id hI
  obtain ⟨⟨a0, a1, a2, a3, a4, a5⟩, ⟨s0, s1, s2, s3⟩, ⟨b0, b1, b2, b3, b4, b5⟩, ⟨r0, r1, r2, r3, r4, r5, r6, r7, r8⟩, ⟨v0, v1, v2⟩⟩ := id hR
  by_cases hb : inN p1 nb
  case neg =>
    refine opr_e (-1) (by decide) (p' := p) ?_ (fun σ σc hσ _ => ?_)
    · rw [fX5_tellFaulty, X1_has hI hR, hs_f hb (by omega), bd_s, if_pos rfl]
    · rw [fX11_report, M_isBicycle (by rw [hσ]; exact h1), hs_f hb (by omega), bd_s, if_pos rfl]
  obtain ⟨b, hb, rfl⟩ := hb
  have Xb : fX1_has (p 1) (nI b) = some 1 := by rw [X1_has hI hR, hs_t hb (by omega)]
  have Mb : ∀ σ : T2, σ 0 = g → fX11_isBicycle σ (nI b) = some 1 := fun σ hσ => by rw [M_isBicycle (by rw [hσ]; exact h1), hs_t hb (by omega)]
  have hst := (hbc b hb).1
  have eS : ∀ σ : T2, σ 0 = g → fX11_report σ (nI b) = (if (1 : Int32) < g (32 + 6 * b) then (some ((-2), σ)) else (if g (32 + 6 * b + 3) = 1 then (some ((-2), σ)) else (bd (fX11_changes σ) (fun q34 => bd (fX11_faulty (sU q34 0 (sU (q34 0) (32 + 6 * b + 3) 1))) (fun q53 => some (q53, sU q34 0 (sU (q34 0) (32 + 6 * b + 3) 1))))))) := fun σ hσ => by
    rw [fX11_report, Mb σ hσ, bd_s, if_neg ne10, M_ofB0 (by omega), bd_s, M_ofB3 (by omega), bd_s, hσ]
    simp (disch := omega) only [bd_s, bn_s, gi_nI, cl_nI, sU_s, sU_n, sU_sU, nI_1, nI_pred, ixB3]
  have eX : fX5_tellFaulty p (nI b) = (if g (32 + 6 * b) = 0 then fX5_tellFaulty_37 (nI b) p 1 else if g (32 + 6 * b) = 1 then fX5_tellFaulty_37 (nI b) p 1 else some (-2, p)) := by
    rw [fX5_tellFaulty, Xb, bd_s, if_neg ne10, gi_nI (by omega) (by decide), cl_nI (by omega), b0 b (by omega)]
    unfold fX5_tellFaulty_32
    rw [show fX5_tellFaulty_37 (nI b) p 0 = some (-2, p) by rw [fX5_tellFaulty_37, if_pos rfl]]
  have eY : fX5_tellFaulty_37 (nI b) p 1 = (if g (32 + 6 * b + 3) = 0 then bd (fX1_countFaulty (sU (p 1) 3 (sU (p 1 3) b 1))) (fun q => some (q, sU p 1 (sU (p 1) 3 (sU (p 1 3) b 1)))) else some (-2, p)) := by
    rw [fX5_tellFaulty_37, if_neg ne10, gi_nI (by omega) (by decide), cl_nI (by omega), b3 b (by omega)]
    simp (disch := omega) only [bd_s, bn_s, gi_nI, cl_nI, sU_s, sU_n, sU_sU, nI_1, nI_pred]
  have big : g (32 + 6 * b) = 2 ∨ g (32 + 6 * b) = 3 → OPR g (fX5_tellFaulty p (nI b)) (fun σ => fX11_report σ (nI b)) := fun q => by
    refine opr_e (-2) (by decide) (p' := p) ?_ (fun σ σc hσ _ => ?_)
    · rw [eX, if_neg (by rcases q with q | q <;> rw [q] <;> decide), if_neg (by rcases q with q | q <;> rw [q] <;> decide)]
    · rw [eS σ hσ, if_pos (by rcases q with q | q <;> rw [q] <;> decide)]
  have small : g (32 + 6 * b) = 0 ∨ g (32 + 6 * b) = 1 → OPR g (fX5_tellFaulty p (nI b)) (fun σ => fX11_report σ (nI b)) := fun q => by
    have eX2 : fX5_tellFaulty p (nI b) = fX5_tellFaulty_37 (nI b) p 1 := by
      rw [eX]
      rcases q with q | q
      · rw [if_pos q]
      · rw [q, if_neg (by decide), if_pos rfl]
    rcases (hbc b hb).2 with c | c
    · have hI2 := IG_faulty (v := 1) hI hb (Or.inr rfl)
      obtain ⟨x, hx, hx2⟩ := cf_nI (g := (sU g (32 + 6 * b + 3) 1)) nb (fun k hk => (hI2.2.2.2.2.2.1 k hk).2)
      refine opr_o (nI x) (sU g (32 + 6 * b + 3) 1) (nI_pos (by omega)) (p' := sU p 1 (sU (p 1) 3 (sU (p 1 3) b 1))) ?_ (fun σ σc hσ hC => ?_) ⟨ns, nb, nr, nv, hI2⟩ ?_
      · rw [eX2, eY, if_pos c, X_faulty (g := (sU g (32 + 6 * b + 3) 1)) (nb := nb) (by simp (disch := omega) only [sU_n, sU_s]; exact a1.trans h1) hb16 (fun k hk => ?_), bd_s, hx2]
        by_cases e : k = b
        · subst e; simp (disch := omega) only [sU_n, sU_s]
        · simp (disch := omega) only [sU_n, sU_s]; exact b3 k hk
      · obtain ⟨hc1, hc2⟩ := hC
        rw [eS σ hσ, if_neg (by rcases q with q | q <;> rw [q] <;> decide), if_neg (by rw [c]; decide), hc1, bd_s, M_faulty (nb := nb) (by rw [hc2, hσ]; simp (disch := omega) only [sU_n, sU_s]; exact h1) hb16, bd_s, sU_s, hc2, hσ, hx2]
      · exact ⟨⟨(by (try simp (disch := omega) only [sU_n, sU_s]); exact a0), (by (try simp (disch := omega) only [sU_n, sU_s]); exact a1), (by (try simp (disch := omega) only [sU_n, sU_s]); exact a2), (by (try simp (disch := omega) only [sU_n, sU_s]); exact a3), (by (try simp (disch := omega) only [sU_n, sU_s]); exact a4), (fun i hi => by (try simp (disch := omega) only [sU_n, sU_s]); exact a5 i hi)⟩, ⟨(fun k9 hk9 => by (try simp (disch := omega) only [sU_n, sU_s]); exact s0 k9 hk9), (fun k9 hk9 => by (try simp (disch := omega) only [sU_n, sU_s]); exact s1 k9 hk9), (fun k9 hk9 => by (try simp (disch := omega) only [sU_n, sU_s]); exact s2 k9 hk9), (fun k9 hk9 => by (try simp (disch := omega) only [sU_n, sU_s]); exact s3 k9 hk9)⟩, ⟨(fun k9 hk9 => by
    by_cases e : k9 = b
    · subst e
      (try simp (disch := omega) only [sU_n, sU_s])
      all_goals (first | rfl | exact b0 _ hk9)
    · (try simp (disch := omega) only [sU_n, sU_s])
      exact b0 k9 hk9), (fun k9 hk9 => by
    by_cases e : k9 = b
    · subst e
      (try simp (disch := omega) only [sU_n, sU_s])
      all_goals (first | rfl | exact b1 _ hk9)
    · (try simp (disch := omega) only [sU_n, sU_s])
      exact b1 k9 hk9), (fun k9 hk9 => by
    by_cases e : k9 = b
    · subst e
      (try simp (disch := omega) only [sU_n, sU_s])
      all_goals (first | rfl | exact b2 _ hk9)
    · (try simp (disch := omega) only [sU_n, sU_s])
      exact b2 k9 hk9), (fun k9 hk9 => by
    by_cases e : k9 = b
    · subst e
      (try simp (disch := omega) only [sU_n, sU_s])
      all_goals (first | rfl | exact b3 _ hk9)
    · (try simp (disch := omega) only [sU_n, sU_s])
      exact b3 k9 hk9), (fun k9 hk9 => by
    by_cases e : k9 = b
    · subst e
      (try simp (disch := omega) only [sU_n, sU_s])
      all_goals (first | rfl | exact b4 _ hk9)
    · (try simp (disch := omega) only [sU_n, sU_s])
      exact b4 k9 hk9), (fun k9 hk9 => by
    by_cases e : k9 = b
    · subst e
      (try simp (disch := omega) only [sU_n, sU_s])
      all_goals (first | rfl | exact b5 _ hk9)
    · (try simp (disch := omega) only [sU_n, sU_s])
      exact b5 k9 hk9)⟩, ⟨(fun k9 hk9 => by (try simp (disch := omega) only [sU_n, sU_s]); exact r0 k9 hk9), (fun k9 hk9 => by (try simp (disch := omega) only [sU_n, sU_s]); exact r1 k9 hk9), (fun k9 hk9 => by (try simp (disch := omega) only [sU_n, sU_s]); exact r2 k9 hk9), (fun k9 hk9 => by (try simp (disch := omega) only [sU_n, sU_s]); exact r3 k9 hk9), (fun k9 hk9 => by (try simp (disch := omega) only [sU_n, sU_s]); exact r4 k9 hk9), (fun k9 hk9 => by (try simp (disch := omega) only [sU_n, sU_s]); exact r5 k9 hk9), (fun k9 hk9 => by (try simp (disch := omega) only [sU_n, sU_s]); exact r6 k9 hk9), (fun k9 hk9 => by (try simp (disch := omega) only [sU_n, sU_s]); exact r7 k9 hk9), (fun k9 hk9 => by (try simp (disch := omega) only [sU_n, sU_s]); exact r8 k9 hk9)⟩, ⟨(fun k9 hk9 => by (try simp (disch := omega) only [sU_n, sU_s]); exact v0 k9 hk9), (fun k9 hk9 => by (try simp (disch := omega) only [sU_n, sU_s]); exact v1 k9 hk9), (fun k9 hk9 => by (try simp (disch := omega) only [sU_n, sU_s]); exact v2 k9 hk9)⟩⟩
    · refine opr_e (-2) (by decide) (p' := p) ?_ (fun σ σc hσ _ => ?_)
      · rw [eX2, eY, if_neg (by rw [c]; decide)]
      · rw [eS σ hσ, if_neg (by rcases q with q | q <;> rw [q] <;> decide), if_pos c]
  rcases hst with ⟨q, -⟩ | ⟨q, -⟩ | ⟨q, -⟩ | ⟨q, -⟩
  · exact small (Or.inl q)
  · exact small (Or.inr q)
  · exact big (Or.inl q)
  · exact big (Or.inr q)
