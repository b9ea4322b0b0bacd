/-! MATH 6: the changes: full, go -/
theorem told_t : ∀ m, m < 64 → ∀ s, s < 6 → (((nI m >>> (nI s &&& 31)) &&& 1 = 1 ↔ ¬ (nI m &&& ((1 : Int32) <<< (nI s &&& 31))) = 0) ∧ (¬ ((nI m >>> (nI s &&& 31)) &&& 1 = 1) → nI m ||| ((1 : Int32) <<< (nI s &&& 31)) = nI (m + 2 ^ s) ∧ m + 2 ^ s < 64 ∧ pc (m + 2 ^ s) = pc m + 1)) := by decide +kernel
theorem pc_le : ∀ m, m < 64 → pc m ≤ 6 := by decide +kernel
/-- has a ride -/
def rdN (g : T1) (r : Nat) : Int32 := if g (128 + 9 * r + 2) = -4 then 0 else 1
theorem M_rides {σ : T2} {nb r : Nat} (hr : r < 8) (hd : RD (σ 0) nb r) (h16 : nb ≤ 16) : fX11_rides σ (nI r) = some (rdN (σ 0) r) := by
  rw [fX11_rides, M_ofR2 hr, bd_s]
  unfold rdN
  rcases hd.1 with q | ⟨j, hj, q⟩
  · rw [q, if_pos (by decide), if_pos rfl]
  · rw [q, if_neg (nI_pos (by omega)), if_neg (fun e => nI_pos (n := j) (by omega) (by rw [e]; decide))]
theorem mp_m1 {x : Int32} {nb : Nat} (h16 : nb ≤ 16) (h : x = -4 ∨ ∃ j, j < nb ∧ x = nI j) : mp x = -1 ↔ x = -4 := by
  unfold mp
  by_cases e : x = -4
  · rw [if_pos e]; exact ⟨fun _ => e, fun _ => rfl⟩
  · rw [if_neg e]
    rcases h with q | ⟨j, hj, q⟩
    · exact absurd q e
    · exact ⟨fun z => (nI_pos (n := j) (by omega) (by rw [← q, z]; decide)).elim, fun z => absurd z e⟩
theorem X_hasRide {p : T3} {g : T1} {ns nb nr nv r : Nat} (hI : IG g ns nb nr nv) (hR : RR p g) (hr : r < nr) : fX4_hasRide (p 2) (nI r) = some (rdN g r) := by
  have h8 : nr ≤ 8 := hI.1.2.2.2.2.2.2.1
  have h16 : nb ≤ 16 := hI.1.2.2.2.2.2.1
  rw [fX4_hasRide, X4_has hI hR, hs_t hr (by omega), bd_s, if_neg ne10, gi_nI (by omega) (by decide), cl_nI (by omega), hR.2.2.2.1.2.2.2.2.1 r (by omega)]
  unfold rdN
  have q := mp_m1 h16 (hI.2.2.2.2.2.2.1 r hr).1
  by_cases e : g (128 + 9 * r + 2) = -4
  · rw [if_pos e, if_pos (q.mpr e)]
  · rw [if_neg e, if_neg (fun z => e (q.mp z))]
theorem rdN_1 {g : T1} {r : Nat} : ¬ rdN g r = 0 ↔ ¬ g (128 + 9 * r + 2) = -4 := by
  unfold rdN
  by_cases e : g (128 + 9 * r + 2) = -4
  · rw [if_pos e]; exact ⟨fun h => absurd rfl h, fun h => absurd e h⟩
  · rw [if_neg e]; exact ⟨fun _ => e, fun _ => by decide⟩
set_option maxHeartbeats 4000000 in
theorem op_full {p : T3} {g : T1} (hI : OK g) (hR : RR p g) (p1 p2 : Int32) : OPR g (fX5_tellFull p p1 p2) (fun σ => fX11_full σ p1 p2) := by
  obtain ⟨ns, nb, nr, nv, hI⟩ := hI
  obtain ⟨⟨h0, h1, h2, h3, hs6, hb16, hr8, hv2⟩, ⟨tm, h4, ht⟩, ⟨⟨t5, h5, ht5⟩, ⟨t6, h6, ht6, ht6b⟩, ⟨t7, h7, ht7⟩⟩, hpl, hdk, hbc, hrd, hvn, hzS, hzB, hzR, hzV⟩ := id hI
  obtain ⟨⟨a0, a1, a2, a3, a4, a5⟩, ⟨s0, s1, s2, s3⟩, ⟨b0, b1, b2, b3, b4, b5⟩, ⟨r0, r1, r2, r3, r4, r5, r6, r7, r8⟩, ⟨v0, v1, v2⟩⟩ := id hR
  by_cases hr : inN p1 nr
  case neg =>
    refine opr_e (-1) (by decide) (p' := p) ?_ (fun σ σc hσ _ => ?_)
    · rw [fX5_tellFull, X4_has hI hR, hs_f hr (by omega), bd_s, if_pos rfl]
    · rw [fX11_full, M_isRider (by rw [hσ]; exact h2), hs_f hr (by omega), bd_s, if_pos rfl]
  obtain ⟨r, hr, rfl⟩ := hr
  have Xr : fX4_has (p 2) (nI r) = some 1 := by rw [X4_has hI hR, hs_t hr (by omega)]
  have Mr : ∀ σ : T2, σ 0 = g → fX11_isRider σ (nI r) = some 1 := fun σ hσ => by rw [M_isRider (by rw [hσ]; exact h2), hs_t hr (by omega)]
  by_cases hk : inN p2 ns
  case neg =>
    refine opr_e (-1) (by decide) (p' := p) ?_ (fun σ σc hσ _ => ?_)
    · rw [fX5_tellFull, Xr, bd_s, if_neg ne10, X6_has hI hR, hs_f hk (by omega), bd_s, if_pos rfl]
    · rw [fX11_full, Mr σ hσ, bd_s, if_neg ne10, M_isStation (by rw [hσ]; exact h0), hs_f hk (by omega), bd_s, if_pos rfl]
  obtain ⟨k, hk, rfl⟩ := hk
  have Xk : fX6_has (p 0) (nI k) = some 1 := by rw [X6_has hI hR, hs_t hk (by omega)]
  have Mk : ∀ σ : T2, σ 0 = g → fX11_isStation σ (nI k) = some 1 := fun σ hσ => by rw [M_isStation (by rw [hσ]; exact h0), hs_t hk (by omega)]
  have M1 : ∀ σ : T2, σ 0 = g → fX11_isFree σ (nI k) = some (fr g nb k) := fun σ hσ => by rw [M_free (ns := ns) (nb := nb) (nr := nr) (nv := nv) (by rw [hσ]; exact hI) hk, hσ]
  have M2 : ∀ σ : T2, σ 0 = g → fX11_rides σ (nI r) = some (rdN g r) := fun σ hσ => by rw [M_rides (nb := nb) (by omega) (by rw [hσ]; exact hrd r hr) hb16, hσ]
  obtain ⟨q1, q2, q3, ⟨m, f, hm, hm2, hf, hf2⟩, q5⟩ := id (hrd r hr)
  have ht0 := told_t m hm2 k (by omega)
  have hpc := pc_le m hm2
  obtain ⟨b, hb, X3⟩ : ∃ b : Int32, (b = 0 ↔ ¬ ((nI m >>> (nI k &&& 31)) &&& 1 = 1)) ∧ fX5_tellFull p (nI r) (nI k) = fX5_tellFull_45 (nI r) (nI k) p b := by
    rw [fX5_tellFull, Xr, bd_s, if_neg ne10, Xk, bd_s, if_neg ne10, gi_nI (by omega) (by decide), cl_nI (by omega), r8 r (by omega), hm]
    by_cases c : (nI m &&& ((1 : Int32) <<< (nI k &&& 31))) = 0
    · exact ⟨0, ⟨fun _ e => ht0.1.mp e c, fun _ => rfl⟩, if_pos c⟩
    · exact ⟨1, ⟨fun e => absurd e ne10, fun e => absurd (ht0.1.mpr c) e⟩, if_neg c⟩
  have bad : rdN g r = 0 ∨ ¬ fr g nb k = 0 ∨ ¬ b = 0 → OPR g (fX5_tellFull p (nI r) (nI k)) (fun σ => fX11_full σ (nI r) (nI k)) := fun q => by
    refine opr_e (-2) (by decide) (p' := p) ?_ (fun σ σc hσ _ => ?_)
    · rw [X3, fX5_tellFull_45, X_hasRide hI hR hr, bd_s]
      by_cases c1 : rdN g r = 0
      · rw [if_pos c1]
      · rw [if_neg c1, X_free hI hR hk, bd_s]
        by_cases c2 : fr g nb k = 0
        · rw [if_pos c2]
          by_cases c3 : b = 0
          · rcases q with q | q | q
            · exact absurd q c1
            · exact absurd c2 q
            · exact absurd c3 q
          · rw [if_neg c3]
        · rw [if_neg c2]
    · rw [fX11_full, Mr σ hσ, bd_s, if_neg ne10, Mk σ hσ, bd_s, if_neg ne10, M2 σ hσ, bd_s]
      by_cases c1 : rdN g r = 0
      · rw [if_pos c1]
      · rw [if_neg c1, M1 σ hσ, bd_s]
        by_cases c2 : fr g nb k = 0
        · rw [if_pos c2, ixR6, gi_nI (by omega) (by decide), cl_nI (by omega), hσ, hm]
          by_cases c3 : (nI m >>> (nI k &&& 31)) &&& 1 = 1
          · rw [if_pos c3]
          · rcases q with q | q | q
            · exact absurd q c1
            · exact absurd c2 q
            · exact absurd (hb.mpr c3) q
        · rw [if_neg c2]
  by_cases c1 : rdN g r = 0
  · exact bad (Or.inl c1)
  by_cases c2 : fr g nb k = 0
  case neg => exact bad (Or.inr (Or.inl c2))
  by_cases c3 : b = 0
  case neg => exact bad (Or.inr (Or.inr c3))
  obtain ⟨w1, w2, w3⟩ := ht0.2 (hb.mp c3)
  have efr : (nI f : Int32) + 15 = nI (f + 15) := nI_add f 15
  refine opr_o (nI (f + 15)) (sU (sU g (128 + 9 * r + 6) (nI (m + 2 ^ k))) (128 + 9 * r + 4) (nI (f + 15))) (nI_pos (by omega)) (p' := sU p 2 (sU (sU (p 2) 8 (sU (p 2 8) r (nI (m + 2 ^ k)))) 6 (sU (p 2 6) r (nI (f + 15))))) ?_ (fun σ σc hσ hC => ?_) ?_ ?_
  · rw [X3, fX5_tellFull_45, X_hasRide hI hR hr, bd_s, if_neg c1, X_free hI hR hk, bd_s, if_pos c2, if_pos c3]
    simp (disch := omega) only [bd_s, bn_s, gi_nI, cl_nI, sU_s, sU_n, sU_sU, nI_1, nI_pred]
    rw [r8 r (by omega), hm, w1, r6 r (by omega), hf, efr]
  · obtain ⟨hc1, hc2⟩ := hC
    rw [fX11_full, Mr σ hσ, bd_s, if_neg ne10, Mk σ hσ, bd_s, if_neg ne10, M2 σ hσ, bd_s, if_neg c1, M1 σ hσ, bd_s, if_pos c2, ixR6, gi_nI (by omega) (by decide), cl_nI (by omega), hσ, hm, if_neg (hb.mp c3), hc1, bd_s]
    simp (disch := omega) only [bd_s, bn_s, gi_nI, cl_nI, sU_s, sU_n, sU_sU, nI_1, nI_pred, ixR4, ixR6, hc2, hσ, hm, w1, hf, efr]
  · refine ⟨ns, nb, nr, nv, IG_rid hI hr (fun i hi => by simp (disch := omega) only [sU_n, sU_s]) ?_⟩
    unfold RD
    simp (disch := omega) only [sU_n, sU_s]
    exact ⟨q1, q2, q3, ⟨m + 2 ^ k, f + 15, rfl, w2, rfl, by omega⟩, q5⟩
  · exact ⟨⟨(by (try simp (disch := omega) only [sU_n, sU_s]); exact a0), (by (try simp (disch := omega) only [sU_n, sU_s]); exact a1), (by (try simp (disch := omega) only [sU_n, sU_s]); exact a2), (by (try simp (disch := omega) only [sU_n, sU_s]); exact a3), (by (try simp (disch := omega) only [sU_n, sU_s]); exact a4), (fun i hi => by (try simp (disch := omega) only [sU_n, sU_s]); exact a5 i hi)⟩, ⟨(fun k9 hk9 => by (try simp (disch := omega) only [sU_n, sU_s]); exact s0 k9 hk9), (fun k9 hk9 => by (try simp (disch := omega) only [sU_n, sU_s]); exact s1 k9 hk9), (fun k9 hk9 => by (try simp (disch := omega) only [sU_n, sU_s]); exact s2 k9 hk9), (fun k9 hk9 => by (try simp (disch := omega) only [sU_n, sU_s]); exact s3 k9 hk9)⟩, ⟨(fun k9 hk9 => by (try simp (disch := omega) only [sU_n, sU_s]); exact b0 k9 hk9), (fun k9 hk9 => by (try simp (disch := omega) only [sU_n, sU_s]); exact b1 k9 hk9), (fun k9 hk9 => by (try simp (disch := omega) only [sU_n, sU_s]); exact b2 k9 hk9), (fun k9 hk9 => by (try simp (disch := omega) only [sU_n, sU_s]); exact b3 k9 hk9), (fun k9 hk9 => by (try simp (disch := omega) only [sU_n, sU_s]); exact b4 k9 hk9), (fun k9 hk9 => by (try simp (disch := omega) only [sU_n, sU_s]); exact b5 k9 hk9)⟩, ⟨(fun k9 hk9 => by
    by_cases e : k9 = r
    · subst e
      (try simp (disch := omega) only [sU_n, sU_s])
      all_goals (first | rfl | exact r0 _ hk9)
    · (try simp (disch := omega) only [sU_n, sU_s])
      exact r0 k9 hk9), (fun k9 hk9 => by
    by_cases e : k9 = r
    · subst e
      (try simp (disch := omega) only [sU_n, sU_s])
      all_goals (first | rfl | exact r1 _ hk9)
    · (try simp (disch := omega) only [sU_n, sU_s])
      exact r1 k9 hk9), (fun k9 hk9 => by
    by_cases e : k9 = r
    · subst e
      (try simp (disch := omega) only [sU_n, sU_s])
      all_goals (first | rfl | exact r2 _ hk9)
    · (try simp (disch := omega) only [sU_n, sU_s])
      exact r2 k9 hk9), (fun k9 hk9 => by
    by_cases e : k9 = r
    · subst e
      (try simp (disch := omega) only [sU_n, sU_s])
      all_goals (first | rfl | exact r3 _ hk9)
    · (try simp (disch := omega) only [sU_n, sU_s])
      exact r3 k9 hk9), (fun k9 hk9 => by
    by_cases e : k9 = r
    · subst e
      (try simp (disch := omega) only [sU_n, sU_s])
      all_goals (first | rfl | exact r4 _ hk9)
    · (try simp (disch := omega) only [sU_n, sU_s])
      exact r4 k9 hk9), (fun k9 hk9 => by
    by_cases e : k9 = r
    · subst e
      (try simp (disch := omega) only [sU_n, sU_s])
      all_goals (first | rfl | exact r5 _ hk9)
    · (try simp (disch := omega) only [sU_n, sU_s])
      exact r5 k9 hk9), (fun k9 hk9 => by
    by_cases e : k9 = r
    · subst e
      (try simp (disch := omega) only [sU_n, sU_s])
      all_goals (first | rfl | exact r6 _ hk9)
    · (try simp (disch := omega) only [sU_n, sU_s])
      exact r6 k9 hk9), (fun k9 hk9 => by
    by_cases e : k9 = r
    · subst e
      (try simp (disch := omega) only [sU_n, sU_s])
      all_goals (first | rfl | exact r7 _ hk9)
    · (try simp (disch := omega) only [sU_n, sU_s])
      exact r7 k9 hk9), (fun k9 hk9 => by
    by_cases e : k9 = r
    · subst e
      (try simp (disch := omega) only [sU_n, sU_s])
      all_goals (first | rfl | exact r8 _ hk9)
    · (try simp (disch := omega) only [sU_n, sU_s])
      exact r8 k9 hk9)⟩, ⟨(fun k9 hk9 => by (try simp (disch := omega) only [sU_n, sU_s]); exact v0 k9 hk9), (fun k9 hk9 => by (try simp (disch := omega) only [sU_n, sU_s]); exact v1 k9 hk9), (fun k9 hk9 => by (try simp (disch := omega) only [sU_n, sU_s]); exact v2 k9 hk9)⟩⟩
theorem way_t : ∀ a, a < 100 → ∀ b, b < 100 → (if (0 : Int32) ≤ nI a - nI b then nI a - nI b else -(nI a - nI b)) = nI (if b ≤ a then a - b else b - a) := by decide +kernel
theorem way_x {x : Int32} : (if 0 ≤ x then x else 0 - x) = (if 0 ≤ x then x else -x) := by
  split
  · rfl
  · exact Int32.zero_sub _
def uw (g : T1) (v : Nat) : Int32 := if g (200 + 3 * v + 2) ≤ g 4 then 0 else 1
theorem M_under {σ : T2} {v : Nat} (hv : v < 2) : fX11_isUnderWay σ (nI v) = some (uw (σ 0) v) := by
  rw [fX11_isUnderWay, M_ofV2 hv, bd_s, ct4]
  unfold uw
  split <;> rfl
theorem X_under {p : T3} {g : T1} {ns nb nr nv v : Nat} (hI : IG g ns nb nr nv) (hR : RR p g) (hv : v < nv) : fX5_isUnderWay p (nI v) = some (uw g v) := by
  have h2 : nv ≤ 2 := hI.1.2.2.2.2.2.2.2
  rw [fX5_isUnderWay, X8_has hI hR, hs_t hv (by omega), bd_s, if_neg ne10, gi_nI (by omega) (by decide), cl_nI (by omega), hR.2.2.2.2.2.2 v (by omega), hR.1.2.2.2.2.1]
  unfold uw
  split <;> rfl
theorem M_way {σ : T2} {a b x y : Nat} (ha : a < 6) (hb : b < 6) (h1 : σ 0 (8 + 4 * a) = nI x) (h2 : σ 0 (8 + 4 * b) = nI y) (hx : x ≤ 99) (hy : y ≤ 99) : fX11_way σ (nI a) (nI b) = some (nI (if y ≤ x then x - y else y - x)) := by
  rw [fX11_way, M_ofS0 ha, bd_s, M_ofS0 hb, bd_s, h1, h2, ← way_t x (by omega) y (by omega)]
  split <;> rfl
theorem X_way {p : T3} {g : T1} {ns nb nr nv a b x y : Nat} (hI : IG g ns nb nr nv) (hR : RR p g) (ha : a < ns) (hb : b < ns) (h1 : g (8 + 4 * a) = nI x) (h2 : g (8 + 4 * b) = nI y) (hx : x ≤ 99) (hy : y ≤ 99) : fX6_way (p 0) (nI a) (nI b) = some (nI (if y ≤ x then x - y else y - x)) := by
  have h6 : ns ≤ 6 := hI.1.2.2.2.2.1
  rw [fX6_way, X6_has hI hR, hs_t ha (by omega), bd_s, if_neg ne10, X6_has hI hR, hs_t hb (by omega), bd_s, if_neg ne10, gi_nI (by omega) (by decide), gi_nI (by omega) (by decide), cl_nI (by omega), cl_nI (by omega), hR.2.1.1 a (by omega), hR.2.1.1 b (by omega), h1, h2, way_x, way_t x (by omega) y (by omega), bn_s]
set_option maxHeartbeats 4000000 in
theorem op_go {p : T3} {g : T1} (hI : OK g) (hR : RR p g) (p1 p2 : Int32) : OPR g (fX5_sendVan p p1 p2) (fun σ => fX11_go σ p1 p2) := by
  obtain ⟨ns, nb, nr, nv, hI⟩ := hI
  obtain ⟨⟨h0, h1, h2, h3, hs6, hb16, hr8, hv2⟩, ⟨tm, h4, ht⟩, ⟨⟨t5, h5, ht5⟩, ⟨t6, h6, ht6, ht6b⟩, ⟨t7, h7, ht7⟩⟩, hpl, hdk, hbc, hrd, hvn, hzS, hzB, hzR, hzV⟩ := id hI
  obtain ⟨⟨a0, a1, a2, a3, a4, a5⟩, ⟨s0, s1, s2, s3⟩, ⟨b0, b1, b2, b3, b4, b5⟩, ⟨r0, r1, r2, r3, r4, r5, r6, r7, r8⟩, ⟨v0, v1, v2⟩⟩ := id hR
  by_cases hv : inN p1 nv
  case neg =>
    refine opr_e (-1) (by decide) (p' := p) ?_ (fun σ σc hσ _ => ?_)
    · rw [fX5_sendVan, X8_has hI hR, hs_f hv (by omega), bd_s, if_pos rfl]
    · rw [fX11_go, M_isVan (by rw [hσ]; exact h3), hs_f hv (by omega), bd_s, if_pos rfl]
  obtain ⟨v, hv, rfl⟩ := hv
  have Xv : fX8_has (p 3) (nI v) = some 1 := by rw [X8_has hI hR, hs_t hv (by omega)]
  have Mv : ∀ σ : T2, σ 0 = g → fX11_isVan σ (nI v) = some 1 := fun σ hσ => by rw [M_isVan (by rw [hσ]; exact h3), hs_t hv (by omega)]
  by_cases hk : inN p2 ns
  case neg =>
    refine opr_e (-1) (by decide) (p' := p) ?_ (fun σ σc hσ _ => ?_)
    · rw [fX5_sendVan, Xv, bd_s, if_neg ne10, X6_has hI hR, hs_f hk (by omega), bd_s, if_pos rfl]
    · rw [fX11_go, Mv σ hσ, bd_s, if_neg ne10, M_isStation (by rw [hσ]; exact h0), hs_f hk (by omega), bd_s, if_pos rfl]
  obtain ⟨k, hk, rfl⟩ := hk
  have Xk : fX6_has (p 0) (nI k) = some 1 := by rw [X6_has hI hR, hs_t hk (by omega)]
  have Mk : ∀ σ : T2, σ 0 = g → fX11_isStation σ (nI k) = some 1 := fun σ hσ => by rw [M_isStation (by rw [hσ]; exact h0), hs_t hk (by omega)]
  have M1 : ∀ σ : T2, σ 0 = g → fX11_isUnderWay σ (nI v) = some (uw g v) := fun σ hσ => by rw [M_under (by omega), hσ]
  obtain ⟨⟨j, hj, ej⟩, w9⟩ := hvn v hv
  by_cases c1 : uw g v = 0
  case neg =>
    refine opr_e (-2) (by decide) (p' := p) ?_ (fun σ σc hσ _ => ?_)
    · rw [fX5_sendVan, Xv, bd_s, if_neg ne10, Xk, bd_s, if_neg ne10, X_under hI hR hv, bd_s, if_neg c1]
    · rw [fX11_go, Mv σ hσ, bd_s, if_neg ne10, Mk σ hσ, bd_s, if_neg ne10, M1 σ hσ, bd_s, if_neg c1]
  by_cases c2 : j = k
  · refine opr_e (-2) (by decide) (p' := p) ?_ (fun σ σc hσ _ => ?_)
    · rw [fX5_sendVan, Xv, bd_s, if_neg ne10, Xk, bd_s, if_neg ne10, X_under hI hR hv, bd_s, if_pos c1, gi_nI (by omega) (by decide), cl_nI (by omega), v0 v (by omega), ej, if_pos (by rw [c2])]
    · rw [fX11_go, Mv σ hσ, bd_s, if_neg ne10, Mk σ hσ, bd_s, if_neg ne10, M1 σ hσ, bd_s, if_pos c1, M_ofV0 (by omega), bd_s, hσ, ej, if_pos (by rw [c2])]
  have c3 : ¬ nI j = nI k := fun e => c2 ((nI_eq (by omega) (by omega)).mp e)
  obtain ⟨x, hx, hx2⟩ := hpl j hj
  obtain ⟨y, hy, hy2⟩ := hpl k hk
  obtain ⟨w, hw⟩ : ∃ w, w = (if y ≤ x then x - y else y - x) := ⟨_, rfl⟩
  have hw2 : w ≤ 99 := by rw [hw]; split <;> omega
  have ew : nI tm + nI w / 2 + 1 = nI (tm + w / 2 + 1) := by
    rw [show (2 : Int32) = nI 2 from rfl, pk_div (by omega) (by decide) (by decide), nI_add, nI_1]
  refine opr_o (nI (tm + w / 2 + 1)) (sU (sU g (200 + 3 * v + 2) (nI (tm + w / 2 + 1))) (200 + 3 * v) (nI k)) (nI_pos (by omega)) (p' := sU p 3 (sU (sU (p 3) 0 (sU (p 3 0) v (nI k))) 2 (sU (p 3 2) v (nI (tm + w / 2 + 1))))) ?_ (fun σ σc hσ hC => ?_) ⟨ns, nb, nr, nv, IG_vat (IG_arr hI hv (by omega)) hv hk⟩ ?_
  · rw [fX5_sendVan, Xv, bd_s, if_neg ne10, Xk, bd_s, if_neg ne10, X_under hI hR hv, bd_s, if_pos c1, gi_nI (by omega) (by decide), cl_nI (by omega), v0 v (by omega), ej, if_neg c3, gi_nI (by omega) (by decide), X_way hI hR hj hk hx hy hx2 hy2, bd_s, ← hw, a4.trans h4]
    simp (disch := omega) only [bd_s, bn_s, gi_nI, cl_nI, sU_s, sU_n, sU_sU, nI_1, nI_pred]
    rw [ew]
  · obtain ⟨hc1, hc2⟩ := hC
    rw [fX11_go, Mv σ hσ, bd_s, if_neg ne10, Mk σ hσ, bd_s, if_neg ne10, M1 σ hσ, bd_s, if_pos c1, M_ofV0 (by omega), bd_s, hσ, ej, if_neg c3, hc1, bd_s, M_ofV0 (by omega), bd_s, hc2, hσ, ej, M_way (by omega) (by omega) (by rw [hc2, hσ]; exact hx) (by rw [hc2, hσ]; exact hy) hx2 hy2, bd_s, ← hw, ct4, h4, ew]
    simp (disch := omega) only [bd_s, bn_s, gi_nI, cl_nI, sU_s, sU_n, sU_sU, nI_1, nI_pred, ixV0, ixV2, M_ofV2]
  · exact ⟨⟨(by (try simp (disch := omega) only [sU_n, sU_s]); exact a0), (by (try simp (disch := omega) only [sU_n, sU_s]); exact a1), (by (try simp (disch := omega) only [sU_n, sU_s]); exact a2), (by (try simp (disch := omega) only [sU_n, sU_s]); exact a3), (by (try simp (disch := omega) only [sU_n, sU_s]); exact a4), (fun i hi => by (try simp (disch := omega) only [sU_n, sU_s]); exact a5 i hi)⟩, ⟨(fun k9 hk9 => by (try simp (disch := omega) only [sU_n, sU_s]); exact s0 k9 hk9), (fun k9 hk9 => by (try simp (disch := omega) only [sU_n, sU_s]); exact s1 k9 hk9), (fun k9 hk9 => by (try simp (disch := omega) only [sU_n, sU_s]); exact s2 k9 hk9), (fun k9 hk9 => by (try simp (disch := omega) only [sU_n, sU_s]); exact s3 k9 hk9)⟩, ⟨(fun k9 hk9 => by (try simp (disch := omega) only [sU_n, sU_s]); exact b0 k9 hk9), (fun k9 hk9 => by (try simp (disch := omega) only [sU_n, sU_s]); exact b1 k9 hk9), (fun k9 hk9 => by (try simp (disch := omega) only [sU_n, sU_s]); exact b2 k9 hk9), (fun k9 hk9 => by (try simp (disch := omega) only [sU_n, sU_s]); exact b3 k9 hk9), (fun k9 hk9 => by (try simp (disch := omega) only [sU_n, sU_s]); exact b4 k9 hk9), (fun k9 hk9 => by (try simp (disch := omega) only [sU_n, sU_s]); exact b5 k9 hk9)⟩, ⟨(fun k9 hk9 => by (try simp (disch := omega) only [sU_n, sU_s]); exact r0 k9 hk9), (fun k9 hk9 => by (try simp (disch := omega) only [sU_n, sU_s]); exact r1 k9 hk9), (fun k9 hk9 => by (try simp (disch := omega) only [sU_n, sU_s]); exact r2 k9 hk9), (fun k9 hk9 => by (try simp (disch := omega) only [sU_n, sU_s]); exact r3 k9 hk9), (fun k9 hk9 => by (try simp (disch := omega) only [sU_n, sU_s]); exact r4 k9 hk9), (fun k9 hk9 => by (try simp (disch := omega) only [sU_n, sU_s]); exact r5 k9 hk9), (fun k9 hk9 => by (try simp (disch := omega) only [sU_n, sU_s]); exact r6 k9 hk9), (fun k9 hk9 => by (try simp (disch := omega) only [sU_n, sU_s]); exact r7 k9 hk9), (fun k9 hk9 => by (try simp (disch := omega) only [sU_n, sU_s]); exact r8 k9 hk9)⟩, ⟨(fun k9 hk9 => by
    by_cases e : k9 = v
    · subst e
      (try simp (disch := omega) only [sU_n, sU_s])
      all_goals (first | rfl | exact v0 _ hk9)
    · (try simp (disch := omega) only [sU_n, sU_s])
      exact v0 k9 hk9), (fun k9 hk9 => by
    by_cases e : k9 = v
    · subst e
      (try simp (disch := omega) only [sU_n, sU_s])
      all_goals (first | rfl | exact v1 _ hk9)
    · (try simp (disch := omega) only [sU_n, sU_s])
      exact v1 k9 hk9), (fun k9 hk9 => by
    by_cases e : k9 = v
    · subst e
      (try simp (disch := omega) only [sU_n, sU_s])
      all_goals (first | rfl | exact v2 _ hk9)
    · (try simp (disch := omega) only [sU_n, sU_s])
      exact v2 k9 hk9)⟩⟩
