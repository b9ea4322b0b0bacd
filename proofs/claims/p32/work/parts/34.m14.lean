/-! MATH 14: aims, moves, the evening, typing -/
theorem sm_nI {f : Nat → Int32} : ∀ n, (∀ k, k < n → ∃ d, f k = nI d ∧ 1 ≤ d ∧ d ≤ 8) → ∃ D, sm f n = nI D ∧ n ≤ D ∧ D ≤ 8 * n
  | 0, _ => ⟨0, rfl, by omega, by omega⟩
  | n + 1, h => by
    obtain ⟨D, e1, e2, e3⟩ := sm_nI n (fun k hk => h k (by omega))
    obtain ⟨d, f1, f2, f3⟩ := h n (by omega)
    exact ⟨D + d, by rw [sm, e1, f1, nI_add], by omega, by omega⟩
def rs (q : Int32) (A : Nat → Int32) : Nat → Int32
  | 0 => q
  | n + 1 => rs q A n - A n
def dk (g : T1) (nb : Nat) : Int32 := sm (fun k => if g (32 + 6 * k) = 0 then 1 else 0) nb
def dd (g : T1) (ns : Nat) : Int32 := sm (fun k => g (8 + 4 * k + 1)) ns
def ai (g : T1) (ns nb k : Nat) : Int32 := g (8 + 4 * k + 1) * dk g nb / dd g ns
def av (g : T1) (ns nb k : Nat) : Int32 := if rs (dk g nb) (ai g ns nb) ns ≤ nI k then ai g ns nb k else ai g ns nb k + 1
theorem dd_pos {g : T1} {ns nb nr nv : Nat} (hI : IG g ns nb nr nv) (h : 0 < ns) : ¬ dd g ns ≤ 0 ∧ ¬ dd g ns = 0 := by
  have h6 : ns ≤ 6 := hI.1.2.2.2.2.1
  obtain ⟨D, e1, e2, e3⟩ := sm_nI (f := fun k => g (8 + 4 * k + 1)) ns (fun k hk => by
    obtain ⟨d, a, b, c, -⟩ := hI.2.2.2.2.1 k hk
    exact ⟨d, a, b, c⟩)
  have e4 : ¬ dd g ns ≤ 0 := by
    rw [dd, e1]
    exact nI_ge (a := 0) (by omega) (by omega)
  exact ⟨e4, fun e => e4 (by rw [e]; decide)⟩
theorem M_aim_lp {σ : T2} {ns nb nr nv k : Nat} (hI : IG (σ 0) ns nb nr nv) (hk : k < ns) : ∀ (n j : Nat) (acc : Int32), j ≤ ns → ns - j < n → acc = rs (dk (σ 0) nb) (ai (σ 0) ns nb) j → fX11_aim_17 σ (nI k) n (dk (σ 0) nb) (dd (σ 0) ns) acc (nI j) = some (av (σ 0) ns nb k) := by
  have h6 : ns ≤ 6 := hI.1.2.2.2.2.1
  have h0 : σ 0 0 = nI ns := hI.1.1
  have hD := (dd_pos hI (by omega)).2
  intro n
  induction n with
  | zero => intro j acc h1 h2; omega
  | succ n ih =>
    intro j acc h1 h2 h3
    rw [fX11_aim_17, ct0, h0]
    by_cases hj : j = ns
    · subst hj
      rw [if_pos (nI_le (Nat.le_refl _) (by omega)), M_ofS1 (by omega), bd_s, nz_s hD, h3, av]
      by_cases c : rs (dk (σ 0) nb) (ai (σ 0) j nb) j ≤ nI k
      · rw [if_pos c, if_pos c, fX11_aim_71, Int32.add_zero]; rfl
      · rw [if_neg c, if_neg c, fX11_aim_71]; rfl
    · rw [if_neg (nI_ge (by omega) (by omega)), M_ofS1 (by omega), bd_s, nz_s hD, nI_1]
      exact ih (j + 1) _ (by omega) (by omega) (by rw [h3, rs]; rfl)
theorem M_aim {σ : T2} {ns nb nr nv k : Nat} (hI : IG (σ 0) ns nb nr nv) (hk : k < ns) : fX11_aim σ (nI k) = some (av (σ 0) ns nb k) := by
  rw [fX11_aim, M_where 0 hI.1.2.1 hI.1.2.2.2.2.2.1, bd_s, M_allDocks hI.1.1 hI.1.2.2.2.2.1, bd_s]
  exact M_aim_lp hI hk fuel 0 _ (by omega) (by have h6 : ns ≤ 6 := hI.1.2.2.2.2.1; unfold fuel; omega) rfl
theorem F85 {p : T3} {ns : Nat} (hb : p 0 4 0 = nI ns) (h6 : ns ≤ 6) (r : Int32) : ∀ (n j : Nat) (S : T2), j ≤ ns → ns - j < n → ∃ S', fX2_findAims_85 p n S r (nI j) = some S' ∧ (∀ k, k < ns → S' 0 k = if k < j then S 0 k else if r ≤ nI k then S 0 k else S 0 k + 1) ∧ ∀ i, i ≠ 0 → S' i = S i := by
  intro n
  induction n with
  | zero => intro j S h1 h2; omega
  | succ n ih =>
    intro j S h1 h2
    rw [fX2_findAims_85, hb]
    by_cases hj : j = ns
    · subst hj
      rw [if_pos (nI_le (Nat.le_refl _) (by omega))]
      exact ⟨S, rfl, fun k hk => by rw [if_pos hk], fun _ _ => rfl⟩
    · rw [if_neg (nI_ge (by omega) (by omega))]
      by_cases c : r ≤ nI j
      · rw [if_pos c]
        refine ⟨S, rfl, fun k hk => ?_, fun _ _ => rfl⟩
        by_cases e : k < j
        · rw [if_pos e]
        · rw [if_neg e, if_pos (Int32.le_trans c (nI_le (by omega) (by omega)))]
      · rw [if_neg c, gi_nI (by omega) (by decide), gi_nI (by omega) (by decide), cl_nI (by omega), bn_s, nI_1]
        obtain ⟨S', e1, e2, e3⟩ := ih (j + 1) (sU S 0 (sU (S 0) j (S 0 j + 1))) (by omega) (by omega)
        refine ⟨S', e1, fun k hk => ?_, fun i hi => ?_⟩
        · rw [e2 k hk]
          rcases Nat.lt_trichotomy k j with e | e | e
          · rw [if_pos (by omega), if_pos e]; simp (disch := omega) only [sU_s, sU_n]
          · subst e; rw [if_pos (by omega), if_neg (by omega), if_neg c]; simp only [sU_s]
          · rw [if_neg (show ¬ k < j + 1 by omega), if_neg (show ¬ k < j by omega)]; simp (disch := omega) only [sU_s, sU_n]
        · rw [e3 i hi]; simp (disch := omega) only [sU_s, sU_n]
theorem F23 {p : T3} {ns : Nat} (hb : p 0 4 0 = nI ns) (h6 : ns ≤ 6) {v2 v3 : Int32} {D A : Nat → Int32} (hd : ∀ k, k < 6 → p 0 1 k = D k) (hA : ∀ k, D k * v3 / v2 = A k) (hD : ns = 0 ∨ ¬ v2 ≤ 0 ∧ ¬ v2 = 0) {q : Int32} : ∀ (n j : Nat) (S : T2) (acc : Int32), j ≤ ns → ns - j < n → acc = rs q A j → (∀ k, k < j → S 0 k = A k) → ∃ S', fX2_findAims_23 p n S v2 v3 acc (nI j) = some S' ∧ (∀ k, k < ns → S' 0 k = if rs q A ns ≤ nI k then A k else A k + 1) ∧ ∀ i, i ≠ 0 → S' i = S i := by
  intro n
  induction n with
  | zero => intro j S acc h1 h2; omega
  | succ n ih =>
    intro j S acc h1 h2 h3 h4
    rw [fX2_findAims_23, hb]
    by_cases hj : j = ns
    · subst hj
      rw [if_pos (nI_le (Nat.le_refl _) (by omega)), h3]
      obtain ⟨S', e1, e2, e3⟩ := F85 hb h6 (rs q A j) fuel 0 S (by omega) (by unfold fuel; omega)
      refine ⟨S', e1, fun k hk => ?_, e3⟩
      rw [e2 k hk, if_neg (Nat.not_lt_zero _), h4 k hk]
    · obtain ⟨c1, c2⟩ := hD.resolve_left (by omega)
      rw [if_neg (nI_ge (by omega) (by omega)), if_neg c1, gi_nI (by omega) (by decide), nz_s c2, fX2_findAims_63, gi_nI (by omega) (by decide), bn_s, gi_nI (by omega) (by decide), cl_nI (by omega), nI_1, hd j (by omega), hA]
      simp only [sU_s]
      obtain ⟨S', e1, e2, e3⟩ := ih (j + 1) (sU S 0 (sU (S 0) j (A j))) (acc - A j) (by omega) (by omega) (by rw [h3, rs]) (fun k hk => by
        by_cases e : k = j
        · subst e; simp only [sU_s]
        · simp (disch := omega) only [sU_s, sU_n]; exact h4 k (by omega))
      refine ⟨S', e1, e2, fun i hi => ?_⟩
      rw [e3 i hi]; simp (disch := omega) only [sU_s, sU_n]
theorem X_findAims {p : T3} {g : T1} {ns nb nr nv : Nat} (hI : IG g ns nb nr nv) (hR : RR p g) (S : T2) : ∃ S', fX2_findAims S p = some S' ∧ (∀ k, k < ns → S' 0 k = av g ns nb k) ∧ ∀ i, i ≠ 0 → S' i = S i := by
  have h6 : ns ≤ 6 := hI.1.2.2.2.2.1
  rw [fX2_findAims, X_allDocks (hR.1.1.trans hI.1.1) h6 hR.2.1.2.1, bd_s, X_where 0 (hR.1.2.1.trans hI.1.2.1) hI.1.2.2.2.2.2.1 hR.2.2.1.1, bd_s]
  exact F23 (hR.1.1.trans hI.1.1) h6 (D := fun k => g (8 + 4 * k + 1)) (A := ai g ns nb) hR.2.1.2.1 (fun k => rfl) (by
    by_cases e : ns = 0
    · exact Or.inl e
    · exact Or.inr (dd_pos hI (by omega))) (q := dk g nb) fuel 0 S _ (by omega) (by unfold fuel; omega) rfl (fun k hk => absurd hk (by omega))
def RDS (x : T5) (X : Option (Int32 × T5)) (σ : T2) (M : Option Int32) : Prop := ∃ r x', X = some (r, x') ∧ M = some r ∧ Rel x' σ
theorem Rel_fill {x : T5} {σ : T2} (h : Rel x σ) (q : T2) : Rel (sU x 1 (sU (x 1) 3 (sU (x 1 3) 0 q))) σ := by
  unfold Rel at h ⊢
  simp (disch := omega) only [sU_s, sU_n]
  exact h
theorem r_stationOf {x : T5} {σ : T2} (h : Rel x σ) (p1 p2 : Int32) : RDS x (fX10_stationOf x p1 p2) σ (fX11_stationOf σ p1 p2) := by
  obtain ⟨⟨⟨ns, nb, nr, nv, hI⟩, hR⟩, -⟩ := id h
  obtain ⟨⟨h0, h1, h2, h3, hs6, hb16, hr8, hv2⟩, ⟨tm, h4, ht⟩, ⟨⟨t5, h5, ht5⟩, ⟨t6, h6, ht6, ht6b⟩, ⟨t7, h7, ht7⟩⟩, hpl, hdk, hbc, hrd, hvn, hzS, hzB, hzR, hzV⟩ := id hI
  obtain ⟨⟨a0, a1, a2, a3, a4, a5⟩, ⟨s0, s1, s2, s3⟩, ⟨b0, b1, b2, b3, b4, b5⟩, ⟨r0, r1, r2, r3, r4, r5, r6, r7, r8⟩, ⟨v0, v1, v2⟩⟩ := id hR
  by_cases hb : inN p1 ns
  case neg =>
    refine ⟨-1, x, ?_, ?_, h⟩
    · rw [fX10_stationOf, X6_has hI hR, hs_f hb (by omega), bd_s, if_pos rfl]
    · rw [fX11_stationOf, M_isStation h0, hs_f hb (by omega), bd_s, if_pos rfl]
  obtain ⟨b, hb, rfl⟩ := hb
  rw [fX10_stationOf, X6_has hI hR, hs_t hb (by omega), bd_s, if_neg ne10, fX11_stationOf, M_isStation h0, hs_t hb (by omega), bd_s, if_neg ne10]
  rcases rng p2 6 (by decide) with ⟨q1, -, q3⟩ | ⟨k, q1, rfl, q3⟩
  · refine ⟨-1, x, ?_, ?_, h⟩
    · rw [if_neg (show ¬ p2 = 0 from q3 0 (by omega)), if_neg (show ¬ p2 = 1 from q3 1 (by omega)), if_neg (show ¬ p2 = 2 from q3 2 (by omega)), if_neg (show ¬ p2 = 3 from q3 3 (by omega)), if_neg (show ¬ p2 = 4 from q3 4 (by omega)), if_neg (show ¬ p2 = 5 from q3 5 (by omega)), if_neg (show ¬ p2 = 6 from q3 6 (by omega))]
    · rw [show fX11_in p2 0 6 = some 0 from q1, bd_s, if_pos rfl]
  rw [show fX11_in (nI k) 0 6 = some 1 from q3, bd_s, if_neg ne10]
  rcases (show k = 0 ∨ k = 1 ∨ k = 2 ∨ k = 3 ∨ k = 4 ∨ k = 5 ∨ k = 6 by omega) with rfl | rfl | rfl | rfl | rfl | rfl | rfl
  · refine ⟨σ 0 (8 + 4 * b), x, ?_, ?_, h⟩
    · rw [if_pos (show nI 0 = 0 from rfl), gi_nI (by omega) (by decide), cl_nI (by omega), s0 b (by omega)]
    · rw [if_pos (show nI 0 = 0 from rfl), show fX11_ofStation σ (nI b) (nI 0) = _ from M_ofS0 (by omega), bd_s]
  · refine ⟨σ 0 (8 + 4 * b + 1), x, ?_, ?_, h⟩
    · rw [if_neg (show ¬ nI 1 = 0 by decide), if_pos (show nI 1 = 1 from rfl), gi_nI (by omega) (by decide), cl_nI (by omega), s1 b (by omega)]
    · rw [if_neg (show ¬ nI 1 = 0 by decide), if_pos (show nI 1 = 1 from rfl), show fX11_ofStation σ (nI b) (nI 1) = _ from M_ofS1 (by omega), bd_s]
  · refine ⟨ts (σ 0) 0 (nI b) nb, x, ?_, ?_, h⟩
    · rw [if_neg (show ¬ nI 2 = 0 by decide), if_neg (show ¬ nI 2 = 1 by decide), if_pos (show nI 2 = 2 from rfl), X_setAt hI hR 0 (by omega), bd_s]
    · rw [if_neg (show ¬ nI 2 = 0 by decide), if_neg (show ¬ nI 2 = 1 by decide), if_pos (show nI 2 = 2 from rfl), M_those h1 hb16, bd_s]
  · refine ⟨un (σ 0) nb b, x, ?_, ?_, h⟩
    · rw [if_neg (show ¬ nI 3 = 0 by decide), if_neg (show ¬ nI 3 = 1 by decide), if_neg (show ¬ nI 3 = 2 by decide), if_pos (show nI 3 = 3 from rfl), X_uneven hI hR hb, bd_s]
    · rw [if_neg (show ¬ nI 3 = 0 by decide), if_neg (show ¬ nI 3 = 1 by decide), if_neg (show ¬ nI 3 = 2 by decide), if_pos (show nI 3 = 3 from rfl), M_uneven h1 hb16 (by omega), bd_s]
  · obtain ⟨S', e1, e2, -⟩ := X_findAims hI hR (x 1 3 0)
    refine ⟨av (σ 0) ns nb b, sU x 1 (sU (x 1) 3 (sU (x 1 3) 0 S')), ?_, ?_, Rel_fill h S'⟩
    · rw [if_neg (show ¬ nI 4 = 0 by decide), if_neg (show ¬ nI 4 = 1 by decide), if_neg (show ¬ nI 4 = 2 by decide), if_neg (show ¬ nI 4 = 3 by decide), if_pos (show nI 4 = 4 from rfl), fX2_aim, e1, bd_s, X6_has hI hR, hs_t hb (by omega), bd_s, if_neg ne10, gi_nI (by omega) (by decide), cl_nI (by omega), e2 b hb, bd_s, bn_s]
    · rw [if_neg (show ¬ nI 4 = 0 by decide), if_neg (show ¬ nI 4 = 1 by decide), if_neg (show ¬ nI 4 = 2 by decide), if_neg (show ¬ nI 4 = 3 by decide), if_pos (show nI 4 = 4 from rfl), M_aim hI hb, bd_s]
  · refine ⟨σ 0 (8 + 4 * b + 2), x, ?_, ?_, h⟩
    · rw [if_neg (show ¬ nI 5 = 0 by decide), if_neg (show ¬ nI 5 = 1 by decide), if_neg (show ¬ nI 5 = 2 by decide), if_neg (show ¬ nI 5 = 3 by decide), if_neg (show ¬ nI 5 = 4 by decide), if_pos (show nI 5 = 5 from rfl), gi_nI (by omega) (by decide), cl_nI (by omega), s2 b (by omega)]
    · rw [if_neg (show ¬ nI 5 = 0 by decide), if_neg (show ¬ nI 5 = 1 by decide), if_neg (show ¬ nI 5 = 2 by decide), if_neg (show ¬ nI 5 = 3 by decide), if_neg (show ¬ nI 5 = 4 by decide), show nI 5 - 3 = 2 from by decide, M_ofS2 (by omega), bd_s]
  · refine ⟨σ 0 (8 + 4 * b + 3), x, ?_, ?_, h⟩
    · rw [if_neg (show ¬ nI 6 = 0 by decide), if_neg (show ¬ nI 6 = 1 by decide), if_neg (show ¬ nI 6 = 2 by decide), if_neg (show ¬ nI 6 = 3 by decide), if_neg (show ¬ nI 6 = 4 by decide), if_neg (show ¬ nI 6 = 5 by decide), if_pos (show nI 6 = 6 from rfl), gi_nI (by omega) (by decide), cl_nI (by omega), s3 b (by omega)]
    · rw [if_neg (show ¬ nI 6 = 0 by decide), if_neg (show ¬ nI 6 = 1 by decide), if_neg (show ¬ nI 6 = 2 by decide), if_neg (show ¬ nI 6 = 3 by decide), if_neg (show ¬ nI 6 = 4 by decide), show nI 6 - 3 = 3 from by decide, M_ofS3 (by omega), bd_s]
