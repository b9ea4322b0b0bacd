/-! LAW 10: all that the law compares -/
section B10
variable {T : Nat} {G P B D R Q V : T1} {x : T5} {σ : T2}
theorem A_areB_lp {g : T1} {ns nb nr nv : Nat} (h : Rel x σ) (hσ : σ 0 = g) (hL : LR G P B D R Q V g) (hI : IG g ns nb nr nv) : ∀ (n j : Nat) (S : T1), j ≤ nb → nb - j < n → (∀ i, i < 4 → S i = sm (fun k => if g (32 + 6 * k) = nI i then 1 else 0) j) → fL_areBicycles_30 G B D x n S 1 (cf g j) (nI j) = some 1 := by
  obtain ⟨⟨h0, h1, h2, h3, hs6, hb16, hr8, hv2⟩, ⟨tm, h4, ht⟩, ⟨⟨t5, h5, ht5⟩, ⟨t6, h6, ht6, ht6b⟩, ⟨t7, h7, ht7⟩⟩, hpl, hdk, hbc, hrd, hvn, hzS, hzB, hzR, hzV⟩ := id hI
  intro n
  induction n with
  | zero => intro j S e1 e2; omega
  | succ n ih =>
    intro j S e1 e2 hS
    rw [fL_areBicycles_30, ct1, hL.G1, h1]
    by_cases hj : j = nb
    · subst hj
      rw [if_pos (nI_le (Nat.le_refl _) (by omega)), fL_areBicycles_177, if_neg ne10, VC_5 h hσ hI, bd_s, ct0, hS 0 (by decide), if_pos rfl, VC_6 h hσ hI, bd_s, ct1, hS 1 (by decide), if_pos rfl, VC_7 h hσ hI, bd_s, ct2, hS 2 (by decide), if_pos rfl, VC_8 h hσ hI, bd_s, ct3, hS 3 (by decide), if_pos rfl, VC_9 h hσ hI, bd_s, if_pos rfl]
    · have hk : j < nb := by omega
      obtain ⟨s, hs, es⟩ : ∃ s, s < 4 ∧ g (32 + 6 * j) = nI s := by
        rcases (hbc j hk).1 with ⟨q, -⟩ | ⟨q, -⟩ | ⟨q, -⟩ | ⟨q, -⟩
        · exact ⟨0, by decide, q⟩
        · exact ⟨1, by decide, q⟩
        · exact ⟨2, by decide, q⟩
        · exact ⟨3, by decide, q⟩
      have b0 := VB_0 h hσ hI hk
      rw [es] at b0
      have hS' : ∀ i, i < 4 → (sU S s (S s + 1)) i = sm (fun k => if g (32 + 6 * k) = nI i then 1 else 0) (j + 1) := fun i hi => by
        rw [sm]
        by_cases q : i = s
        · subst q
          rw [sU_s, hS i hi, if_pos es]
        · rw [sU_n q, hS i hi, if_neg (fun z => q ((nI_eq (by omega) (by omega)).mp (es.symm.trans z)).symm), Int32.add_zero]
      have hcf : cf g j + g (32 + 6 * j + 3) = cf g (j + 1) := rfl
      rw [if_neg (nI_ge (by omega) (by omega)), if_neg ne10]
      simp (disch := omega) only [bd_s, bn_s, gi_nI, cl_nI, mu3, nI_1, pl2, hL.B0 (show j < 16 by omega), hL.B1 (show j < 16 by omega), hL.B2 (show j < 16 by omega), hL.D0 (show j < 16 by omega), hL.D1 (show j < 16 by omega), es, b0, VB_1 h hσ hI hk, VB_2 h hσ hI hk, VB_3 h hσ hI hk, VB_4 h hσ hI hk, VB_5 h hσ hI hk, hcf, ↓reduceIte]
      unfold fL_areBicycles_169
      rw [nI_1]
      exact ih (j + 1) _ (by omega) (by omega) hS'
theorem A_areB {g : T1} {ns nb nr nv : Nat} (h : Rel x σ) (hσ : σ 0 = g) (hL : LR G P B D R Q V g) (hI : IG g ns nb nr nv) : fL_areBicycles G B D x = some 1 := by
  have h16 : nb ≤ 16 := hI.1.2.2.2.2.2.1
  rw [fL_areBicycles, ct1, hL.G1, hI.1.2.1, VB_n h hσ hI, bd_s, if_pos rfl]
  unfold fL_areBicycles_17
  exact A_areB_lp h hσ hL hI fuel 0 _ (Nat.zero_le _) (by unfold fuel; omega) (fun i hi => rfl)
theorem A_beg {g : T1} {ns nb nr nv : Nat} (hσ : σ 0 = g) (hL : LR G P B D R Q V g) (hI : IG g ns nb nr nv) (hB : sm (fun k => g (8 + 4 * k + 2)) ns = sm (fun k => g (128 + 9 * k + 7) + (if g (128 + 9 * k + 2) < 0 then 0 else 1)) nr) : ∀ (n j : Nat) (x : T5), Rel x σ → j ≤ ns → ns - j < n → ∃ x', fL_areRiders_325 G R Q n x 1 (sm (fun k => g (128 + 9 * k)) nr) (sm (fun k => g (128 + 9 * k + 7) + (if g (128 + 9 * k + 2) < 0 then 0 else 1)) nr) (sm (fun k => g (8 + 4 * k + 2)) j) (nI j) = some (1, x') ∧ Rel x' σ := by
  obtain ⟨⟨h0, h1, h2, h3, hs6, hb16, hr8, hv2⟩, ⟨tm, h4, ht⟩, ⟨⟨t5, h5, ht5⟩, ⟨t6, h6, ht6, ht6b⟩, ⟨t7, h7, ht7⟩⟩, hpl, hdk, hbc, hrd, hvn, hzS, hzB, hzR, hzV⟩ := id hI
  intro n
  induction n with
  | zero => intro j x hx e1 e2; omega
  | succ n ih =>
    intro j x hx e1 e2
    rw [fL_areRiders_325, ct0, hL.G0, h0]
    by_cases hj : j = ns
    · subst hj
      rw [if_pos (nI_le (Nat.le_refl _) (by omega)), if_neg ne10, VC_11 hx hσ hI, bd_s, if_pos rfl, if_pos hB]
      exact ⟨x, rfl, hx⟩
    · obtain ⟨x', e3, e4⟩ := VS_5 hx hσ hI (show j < ns by omega)
      rw [if_neg (nI_ge (by omega) (by omega)), e3, bd_s, nI_1]
      exact ih (j + 1) x' e4 (by omega) (by omega)
theorem A_areR_lp {g : T1} {ns nb nr nv : Nat} (h : Rel x σ) (hσ : σ 0 = g) (hL : LR G P B D R Q V g) (hI : IG g ns nb nr nv) (hB : sm (fun k => g (8 + 4 * k + 2)) ns = sm (fun k => g (128 + 9 * k + 7) + (if g (128 + 9 * k + 2) < 0 then 0 else 1)) nr) : ∀ (n j : Nat), j ≤ nr → nr - j < n → ∃ x', fL_areRiders_28 G R Q n x 1 (sm (fun k => g (128 + 9 * k)) j) (sm (fun k => g (128 + 9 * k + 7) + (if g (128 + 9 * k + 2) < 0 then 0 else 1)) j) (nI j) = some (1, x') ∧ Rel x' σ := by
  obtain ⟨⟨h0, h1, h2, h3, hs6, hb16, hr8, hv2⟩, ⟨tm, h4, ht⟩, ⟨⟨t5, h5, ht5⟩, ⟨t6, h6, ht6, ht6b⟩, ⟨t7, h7, ht7⟩⟩, hpl, hdk, hbc, hrd, hvn, hzS, hzB, hzR, hzV⟩ := id hI
  intro n
  induction n with
  | zero => intro j e1 e2; omega
  | succ n ih =>
    intro j e1 e2
    rw [fL_areRiders_28, ct2, hL.G2, h2]
    by_cases hj : j = nr
    · subst hj
      rw [if_pos (nI_le (Nat.le_refl _) (by omega))]
      unfold fL_areRiders_319
      exact A_beg hσ hL hI hB fuel 0 x h (Nat.zero_le _) (by unfold fuel; omega)
    have hk : j < nr := by omega
    have hk8 : j < 8 := by omega
    obtain ⟨q1, -⟩ := id (hrd j hk)
    obtain ⟨x', e3, e4⟩ := ih (j + 1) (by omega) (by omega)
    refine ⟨x', Eq.trans ?_ e3, e4⟩
    have fin : ∀ v5 v6 : Int32, v5 = sm (fun k => g (128 + 9 * k)) (j + 1) → v6 = sm (fun k => g (128 + 9 * k + 7) + (if g (128 + 9 * k + 2) < 0 then 0 else 1)) (j + 1) → fL_areRiders_311 (fL_areRiders_28 G R Q n) G R Q x v5 v6 (nI j) 1 = fL_areRiders_28 G R Q n x 1 (sm (fun k => g (128 + 9 * k)) (j + 1)) (sm (fun k => g (128 + 9 * k + 7) + (if g (128 + 9 * k + 2) < 0 then 0 else 1)) (j + 1)) (nI (j + 1)) := fun v5 v6 a b => by
      unfold fL_areRiders_311
      rw [a, b, nI_1]
    have t6_ : ∀ (v5 v6 t : Int32), v5 = sm (fun k => g (128 + 9 * k)) (j + 1) → v6 = sm (fun k => g (128 + 9 * k + 7) + (if g (128 + 9 * k + 2) < 0 then 0 else 1)) (j + 1) → fL_areRiders_253 (fL_areRiders_28 G R Q n) G R Q x v5 v6 (nI j) t t = fL_areRiders_28 G R Q n x 1 (sm (fun k => g (128 + 9 * k)) (j + 1)) (sm (fun k => g (128 + 9 * k + 7) + (if g (128 + 9 * k + 2) < 0 then 0 else 1)) (j + 1)) (nI (j + 1)) := fun v5 v6 t a b => by
      rw [fL_areRiders_253, if_pos rfl, VR_6 h hσ hI hk, bd_s, mu4, pl2, gi_nI (by omega) (by decide), cl_nI (by omega), hL.Q2 hk8, if_pos rfl, VR_7 h hσ hI hk, bd_s, pl3, gi_nI (by omega) (by decide), cl_nI (by omega), hL.Q3 hk8, if_pos rfl, VR_8 h hσ hI hk, bd_s, if_pos rfl]
      exact fin v5 v6 a b
    by_cases c1 : rdN g j = 0
    · have e4' : g (128 + 9 * j + 2) = -4 := by
        by_cases e : g (128 + 9 * j + 2) = -4
        · exact e
        · exact absurd c1 (rdN_1.mpr e)
      have hlt : g (128 + 9 * j + 2) < 0 := by rw [e4']; decide
      have t2_ : ∀ (v5 v6 t : Int32), v5 = sm (fun k => g (128 + 9 * k)) (j + 1) → v6 = sm (fun k => g (128 + 9 * k + 7) + (if g (128 + 9 * k + 2) < 0 then 0 else 1)) (j + 1) → fL_areRiders_147 (fL_areRiders_28 G R Q n) G R Q x v5 v6 (nI j) 0 t t = fL_areRiders_28 G R Q n x 1 (sm (fun k => g (128 + 9 * k)) (j + 1)) (sm (fun k => g (128 + 9 * k + 7) + (if g (128 + 9 * k + 2) < 0 then 0 else 1)) (j + 1)) (nI (j + 1)) := fun v5 v6 t a b => by
        rw [fL_areRiders_147, if_pos rfl, VR_2a h hσ hI hk c1, bd_s, mu5, pl2, gi_nI (by omega) (by decide), cl_nI (by omega), hL.R2 hk8, e4', if_pos rfl, VR_3a h hσ hI hk c1, bd_s, if_pos rfl, fL_areRiders_197, if_pos rfl, VR_4a h hσ hI hk c1, bd_s, if_pos rfl, fL_areRiders_225, if_pos rfl, VR_5a h hσ hI hk c1, bd_s, if_pos rfl]
        exact t6_ v5 v6 _ a b
      rw [if_neg (nI_ge (by omega) (by omega)), if_neg ne10, mu5, pl2, gi_nI (by omega) (by decide), cl_nI (by omega), hL.R2 hk8, if_pos hlt, fL_areRiders_57, mu5, gi_nI (by omega) (by decide), cl_nI (by omega), hL.R0 hk8, bn_s, mu4, pl2, gi_nI (by omega) (by decide), cl_nI (by omega), hL.Q2 hk8, if_pos rfl, fL_areRiders_90, VR_0 h hσ hI hk, bd_s, mu5, gi_nI (by omega) (by decide), cl_nI (by omega), hL.R0 hk8, if_pos rfl, nI_1, ct4, hL.G4]
      have hv6 : sm (fun k => g (128 + 9 * k + 7) + (if g (128 + 9 * k + 2) < 0 then 0 else 1)) j + (g (128 + 9 * j + 7) + 0) = sm (fun k => g (128 + 9 * k + 7) + (if g (128 + 9 * k + 2) < 0 then 0 else 1)) (j + 1) := by
        rw [sm, if_pos hlt]
      by_cases c2 : g (128 + 9 * j + 1) ≤ g 4
      · rw [VR_1a h hσ hI hk c2, bd_s, gi_nI (by omega) (by decide), cl_nI (by omega), hL.R1 hk8, if_pos c2]
        exact t2_ _ _ _ rfl hv6
      · rw [VR_1b h hσ hI hk c2, bd_s, gi_nI (by omega) (by decide), cl_nI (by omega), hL.R1 hk8, if_neg c2, gi_nI (by omega) (by decide)]
        exact t2_ _ _ _ rfl hv6
    · obtain ⟨b, hb, eb⟩ : ∃ b, b < nb ∧ g (128 + 9 * j + 2) = nI b := by
        rcases q1 with q | q
        · exact absurd q (rdN_1.mp c1)
        · exact q
      have hlt : ¬ g (128 + 9 * j + 2) < 0 := by rw [eb]; exact nI_pos (by omega)
      have hRR : RR (x 1 0) g := by rw [← hσ]; exact h.1.2
      obtain ⟨F, -, -, hF⟩ := fee_b hI hRR hk c1
      have t2_ : ∀ (v5 v6 t : Int32), v5 = sm (fun k => g (128 + 9 * k)) (j + 1) → v6 = sm (fun k => g (128 + 9 * k + 7) + (if g (128 + 9 * k + 2) < 0 then 0 else 1)) (j + 1) → fL_areRiders_147 (fL_areRiders_28 G R Q n) G R Q x v5 v6 (nI j) 1 t t = fL_areRiders_28 G R Q n x 1 (sm (fun k => g (128 + 9 * k)) (j + 1)) (sm (fun k => g (128 + 9 * k + 7) + (if g (128 + 9 * k + 2) < 0 then 0 else 1)) (j + 1)) (nI (j + 1)) := fun v5 v6 t a b => by
        rw [fL_areRiders_147, if_pos rfl, VR_2b h hσ hI hk c1, bd_s, mu5, pl2, gi_nI (by omega) (by decide), cl_nI (by omega), hL.R2 hk8, if_pos rfl, VR_3b h hσ hI hk c1, bd_s, if_neg ne10, pl3, gi_nI (by omega) (by decide), cl_nI (by omega), hL.R3 hk8, ct4, hL.G4, fL_areRiders_197, if_pos rfl, VR_4b h hσ hI hk c1, bd_s, if_neg ne10, mu5, pl4, gi_nI (by omega) (by decide), cl_nI (by omega), hL.R4 hk8, fL_areRiders_225, if_pos rfl, VR_5b h hσ hI hk c1 hF, bd_s, if_neg ne10, L_fee hL hI hk hF, bd_s]
        exact t6_ v5 v6 _ a b
      rw [if_neg (nI_ge (by omega) (by omega)), if_neg ne10, mu5, pl2, gi_nI (by omega) (by decide), cl_nI (by omega), hL.R2 hk8, if_neg hlt, fL_areRiders_57, mu5, gi_nI (by omega) (by decide), cl_nI (by omega), hL.R0 hk8, bn_s, mu4, pl2, gi_nI (by omega) (by decide), cl_nI (by omega), hL.Q2 hk8, if_neg ne10, fL_areRiders_90, VR_0 h hσ hI hk, bd_s, mu5, gi_nI (by omega) (by decide), cl_nI (by omega), hL.R0 hk8, if_pos rfl, nI_1, ct4, hL.G4]
      have hv6 : sm (fun k => g (128 + 9 * k + 7) + (if g (128 + 9 * k + 2) < 0 then 0 else 1)) j + (g (128 + 9 * j + 7) + 1) = sm (fun k => g (128 + 9 * k + 7) + (if g (128 + 9 * k + 2) < 0 then 0 else 1)) (j + 1) := by
        rw [sm, if_neg hlt]
      by_cases c2 : g (128 + 9 * j + 1) ≤ g 4
      · rw [VR_1a h hσ hI hk c2, bd_s, gi_nI (by omega) (by decide), cl_nI (by omega), hL.R1 hk8, if_pos c2]
        exact t2_ _ _ _ rfl hv6
      · rw [VR_1b h hσ hI hk c2, bd_s, gi_nI (by omega) (by decide), cl_nI (by omega), hL.R1 hk8, if_neg c2, gi_nI (by omega) (by decide)]
        exact t2_ _ _ _ rfl hv6
theorem A_areR {g : T1} {ns nb nr nv : Nat} (h : Rel x σ) (hσ : σ 0 = g) (hL : LR G P B D R Q V g) (hI : IG g ns nb nr nv) (hB : sm (fun k => g (8 + 4 * k + 2)) ns = sm (fun k => g (128 + 9 * k + 7) + (if g (128 + 9 * k + 2) < 0 then 0 else 1)) nr) : ∃ x', fL_areRiders G R Q x = some (1, x') ∧ Rel x' σ := by
  have h8 : nr ≤ 8 := hI.1.2.2.2.2.2.2.1
  rw [fL_areRiders, ct2, hL.G2, hI.1.2.2.1, VR_n h hσ hI, bd_s, if_pos rfl]
  unfold fL_areRiders_17
  exact A_areR_lp h hσ hL hI hB fuel 0 (Nat.zero_le _) (by unfold fuel; omega)
end B10
