/-! MATH 10: pause -/
def fw (g : T1) (nb : Nat) : Nat → Nat → Option Nat
  | _, 0 => none
  | k, c + 1 => if fr g nb k = 0 then fw g nb (k + 1) c else some k
theorem fw_some {g : T1} {nb : Nat} : ∀ (c k s : Nat), fw g nb k c = some s → k ≤ s ∧ s < k + c ∧ ¬ fr g nb s = 0
  | 0, k, s, h => by cases h
  | c + 1, k, s, h => by
    rw [fw] at h
    by_cases e : fr g nb k = 0
    · rw [if_pos e] at h
      have := fw_some c (k + 1) s h
      exact ⟨by omega, by omega, this.2.2⟩
    · rw [if_neg e] at h
      cases h
      exact ⟨Nat.le_refl _, by omega, e⟩
theorem M_ff {σ : T2} {ns nb nr nv : Nat} (hI : IG (σ 0) ns nb nr nv) : ∀ (n k : Nat), k ≤ ns → k < n → fX11_freeStation_12 σ n (ob (-4) (fw (σ 0) nb k (ns - k))) (nI k - 1) = some (ob (-4) (fw (σ 0) nb 0 ns)) := by
  have h6 : ns ≤ 6 := hI.1.2.2.2.2.1
  intro n
  induction n with
  | zero => intro k h1 h2; omega
  | succ n ih =>
    intro k h1 h2
    rw [fX11_freeStation_12]
    cases k with
    | zero => rw [if_pos (by decide)]; rfl
    | succ k =>
      rw [nI_pred, if_neg (nI_pos (by omega)), M_free hI (by omega), bd_s]
      have q := ih k (by omega) (by omega)
      rw [show ns - k = (ns - (k + 1)) + 1 by omega, fw] at q
      unfold fX11_freeStation_29
      rw [← Int32.sub_eq_add_neg]
      by_cases e : fr (σ 0) nb k = 0
      · rw [if_pos e] at q ⊢; exact q
      · rw [if_neg e] at q ⊢; exact q
theorem M_free1 {σ : T2} {ns nb nr nv : Nat} (hI : IG (σ 0) ns nb nr nv) : fX11_freeStation σ = some (ob (-4) (fw (σ 0) nb 0 ns)) := by
  have h6 : ns ≤ 6 := hI.1.2.2.2.2.1
  have q := M_ff hI fuel ns (Nat.le_refl _) (by unfold fuel; omega)
  rw [Nat.sub_self] at q
  rw [fX11_freeStation, ct0, hI.1.1]
  exact q
theorem X_ff {p : T3} {g : T1} {ns nb nr nv : Nat} (hI : IG g ns nb nr nv) (hR : RR p g) : ∀ (n k : Nat), k ≤ ns → ns - k < n → fX5_firstWithFreeDock_2 p n (nI k) = some (ob (-1) (fw g nb k (ns - k))) := by
  have h6 : ns ≤ 6 := hI.1.2.2.2.2.1
  intro n
  induction n with
  | zero => intro k h1 h2; omega
  | succ n ih =>
    intro k h1 h2
    rw [fX5_firstWithFreeDock_2, hR.1.1, hI.1.1]
    by_cases e : k = ns
    · subst e
      rw [if_pos (nI_le (Nat.le_refl _) (by omega)), Nat.sub_self]
      rfl
    · rw [if_neg (nI_ge (by omega) (by omega)), X_countAt hI hR 0 (by omega), bd_s, gi_nI (by omega) (by decide), cl_nI (by omega), hR.2.1.2.1 k (by omega), nI_1, ih (k + 1) (by omega) (by omega), show ns - k = (ns - (k + 1)) + 1 by omega, fw]
      unfold fr
      by_cases c : g (8 + 4 * k + 1) ≤ nI (cw g 0 (nI k) nb)
      · rw [if_pos c, if_pos (by rw [if_pos c])]
      · rw [if_neg c, if_neg (by rw [if_neg c]; exact ne10)]
        rfl
theorem X_free1 {p : T3} {g : T1} {ns nb nr nv : Nat} (hI : IG g ns nb nr nv) (hR : RR p g) : fX5_firstWithFreeDock p = some (ob (-1) (fw g nb 0 ns)) := X_ff hI hR fuel 0 (Nat.zero_le _) (by have h6 : ns ≤ 6 := hI.1.2.2.2.2.1; unfold fuel; omega)
set_option maxHeartbeats 8000000 in
theorem dock_lp {ns nb nr nv : Nat} : ∀ (n j acc : Nat) (p : T3) (g : T1), j ≤ nb → nb - j < n → IG g ns nb nr nv → RR p g → ∃ (acc' : Nat) (p' : T3) (g' : T1), fX5_dockReadyBicycles_4 n p (nI acc) (nI j) = some (nI acc', p') ∧ (∀ σ : T2, σ 0 = g → fX11_minute_14 n σ (nI acc) (nI j) = some (nI acc', sU σ 0 g')) ∧ IG g' ns nb nr nv ∧ RR p' g' ∧ acc' ≤ acc + (nb - j) ∧ g' 4 = g 4 := by
  intro n
  induction n with
  | zero => intro j acc p g h1 h2; omega
  | succ n ih =>
    intro j acc p g h1x h2x hI hR
    obtain ⟨⟨h0, h1, h2, h3, hs6, hb16, hr8, hv2⟩, ⟨tm, h4, ht⟩, ⟨⟨t5, h5, ht5⟩, ⟨t6, h6, ht6, ht6b⟩, ⟨t7, h7, ht7⟩⟩, hpl, hdk, hbc, hrd, hvn, hzS, hzB, hzR, hzV⟩ := id hI
    obtain ⟨⟨a0, a1, a2, a3, a4, a5⟩, ⟨s0, s1, s2, s3⟩, ⟨b0, b1, b2, b3, b4, b5⟩, ⟨r0, r1, r2, r3, r4, r5, r6, r7, r8⟩, ⟨v0, v1, v2⟩⟩ := id hR
    by_cases hj : j = nb
    · refine ⟨acc, p, g, ?_, fun σ hσ => ?_, hI, hR, by omega, rfl⟩
      · rw [fX5_dockReadyBicycles_4, a1, h1, hj, if_pos (nI_le (Nat.le_refl _) (by omega))]
      · rw [fX11_minute_14, ct1, hσ, h1, hj, if_pos (nI_le (Nat.le_refl _) (by omega)), ← hσ, sU_id]
    · have hj2 : j < nb := by omega
      have Xg : ¬ p 1 6 0 ≤ nI j := by rw [a1, h1]; exact nI_ge (by omega) (by omega)
      have Mg : ∀ σ : T2, σ 0 = g → ¬ σ 0 1 ≤ nI j := fun σ hσ => by rw [hσ, h1]; exact nI_ge (by omega) (by omega)
      have X1 : fX1_isReady (p 1) (nI j) (p 4 1 0) = some (if g (32 + 6 * j) = 3 ∧ ¬ g 4 < g (32 + 6 * j + 5) then 1 else 0) := by
        rw [fX1_isReady, X1_has hI hR, hs_t hj2 (by omega), bd_s, if_neg ne10, gi_nI (by omega) (by decide), cl_nI (by omega), b0 j (by omega), gi_nI (by omega) (by decide), b5 j (by omega), a4]
        by_cases c1 : g (32 + 6 * j) = 3
        · rw [if_pos c1]
          by_cases c2 : g 4 < g (32 + 6 * j + 5)
          · rw [if_pos c2, if_neg (fun q => q.2 c2)]
          · rw [if_neg c2, if_pos ⟨c1, c2⟩]
        · rw [if_neg c1, if_neg (fun q => c1 q.1)]
      by_cases c : g (32 + 6 * j) = 3 ∧ ¬ g 4 < g (32 + 6 * j + 5)
      case neg =>
        obtain ⟨acc', p', g', e1, e2, e3, e4, e5, e6⟩ := ih (j + 1) acc p g (by omega) (by omega) hI hR
        refine ⟨acc', p', g', ?_, fun σ hσ => ?_, e3, e4, by omega, e6⟩
        · rw [fX5_dockReadyBicycles_4, if_neg Xg, X1, if_neg c, bd_s, if_pos rfl]
          unfold fX5_dockReadyBicycles_60
          rw [nI_1]
          exact e1
        · have sk : fX11_minute_98 (fX11_minute_14 n) σ (nI acc) (nI j) = some (nI acc', sU σ 0 g') := by
            unfold fX11_minute_98
            rw [nI_1]
            exact e2 σ hσ
          rw [fX11_minute_14, ct1, if_neg (Mg σ hσ), M_ofB0 (by omega), bd_s, hσ]
          by_cases c1 : g (32 + 6 * j) = 3
          · rw [if_pos c1, M_ofB5 (by omega), bd_s, ct4, hσ]
            by_cases c2 : g 4 < g (32 + 6 * j + 5)
            · rw [if_pos c2]; exact sk
            · exact absurd ⟨c1, c2⟩ c
          · rw [if_neg c1]; exact sk
      case pos =>
        have hI1 : IG (sU (sU g (32 + 6 * j + 3) 0) (32 + 6 * j + 2) 0) ns nb nr nv := IG_free (IG_faulty hI hj2 (Or.inl rfl)) (by omega) (by intros; omega) (by intros; omega) (by intros; omega) (by intros; omega)
        have hR1 : RR (sU p 1 (sU (sU (p 1) 3 (sU (p 1 3) j 0)) 2 (sU (p 1 2) j 0))) (sU (sU g (32 + 6 * j + 3) 0) (32 + 6 * j + 2) 0) := ⟨⟨(by (try simp (disch := omega) only [sU_n, sU_s]); exact a0), (by (try simp (disch := omega) only [sU_n, sU_s]); exact a1), (by (try simp (disch := omega) only [sU_n, sU_s]); exact a2), (by (try simp (disch := omega) only [sU_n, sU_s]); exact a3), (by (try simp (disch := omega) only [sU_n, sU_s]); exact a4), (fun i hi => by (try simp (disch := omega) only [sU_n, sU_s]); exact a5 i hi)⟩, ⟨(fun k9 hk9 => by (try simp (disch := omega) only [sU_n, sU_s]); exact s0 k9 hk9), (fun k9 hk9 => by (try simp (disch := omega) only [sU_n, sU_s]); exact s1 k9 hk9), (fun k9 hk9 => by (try simp (disch := omega) only [sU_n, sU_s]); exact s2 k9 hk9), (fun k9 hk9 => by (try simp (disch := omega) only [sU_n, sU_s]); exact s3 k9 hk9)⟩, ⟨(fun k9 hk9 => by
    by_cases e : k9 = j
    · subst e
      (try simp (disch := omega) only [sU_n, sU_s])
      all_goals (first | rfl | exact b0 _ hk9)
    · (try simp (disch := omega) only [sU_n, sU_s])
      exact b0 k9 hk9), (fun k9 hk9 => by
    by_cases e : k9 = j
    · subst e
      (try simp (disch := omega) only [sU_n, sU_s])
      all_goals (first | rfl | exact b1 _ hk9)
    · (try simp (disch := omega) only [sU_n, sU_s])
      exact b1 k9 hk9), (fun k9 hk9 => by
    by_cases e : k9 = j
    · subst e
      (try simp (disch := omega) only [sU_n, sU_s])
      all_goals (first | rfl | exact b2 _ hk9)
    · (try simp (disch := omega) only [sU_n, sU_s])
      exact b2 k9 hk9), (fun k9 hk9 => by
    by_cases e : k9 = j
    · subst e
      (try simp (disch := omega) only [sU_n, sU_s])
      all_goals (first | rfl | exact b3 _ hk9)
    · (try simp (disch := omega) only [sU_n, sU_s])
      exact b3 k9 hk9), (fun k9 hk9 => by
    by_cases e : k9 = j
    · subst e
      (try simp (disch := omega) only [sU_n, sU_s])
      all_goals (first | rfl | exact b4 _ hk9)
    · (try simp (disch := omega) only [sU_n, sU_s])
      exact b4 k9 hk9), (fun k9 hk9 => by
    by_cases e : k9 = j
    · subst e
      (try simp (disch := omega) only [sU_n, sU_s])
      all_goals (first | rfl | exact b5 _ hk9)
    · (try simp (disch := omega) only [sU_n, sU_s])
      exact b5 k9 hk9)⟩, ⟨(fun k9 hk9 => by (try simp (disch := omega) only [sU_n, sU_s]); exact r0 k9 hk9), (fun k9 hk9 => by (try simp (disch := omega) only [sU_n, sU_s]); exact r1 k9 hk9), (fun k9 hk9 => by (try simp (disch := omega) only [sU_n, sU_s]); exact r2 k9 hk9), (fun k9 hk9 => by (try simp (disch := omega) only [sU_n, sU_s]); exact r3 k9 hk9), (fun k9 hk9 => by (try simp (disch := omega) only [sU_n, sU_s]); exact r4 k9 hk9), (fun k9 hk9 => by (try simp (disch := omega) only [sU_n, sU_s]); exact r5 k9 hk9), (fun k9 hk9 => by (try simp (disch := omega) only [sU_n, sU_s]); exact r6 k9 hk9), (fun k9 hk9 => by (try simp (disch := omega) only [sU_n, sU_s]); exact r7 k9 hk9), (fun k9 hk9 => by (try simp (disch := omega) only [sU_n, sU_s]); exact r8 k9 hk9)⟩, ⟨(fun k9 hk9 => by (try simp (disch := omega) only [sU_n, sU_s]); exact v0 k9 hk9), (fun k9 hk9 => by (try simp (disch := omega) only [sU_n, sU_s]); exact v1 k9 hk9), (fun k9 hk9 => by (try simp (disch := omega) only [sU_n, sU_s]); exact v2 k9 hk9)⟩⟩
        have Xr : fX1_renew (p 1) (nI j) = some (sU (sU (p 1) 3 (sU (p 1 3) j 0)) 2 (sU (p 1 2) j 0)) := by
          rw [fX1_renew, X1_has hI hR, hs_t hj2 (by omega), bd_s, if_neg ne10]
          simp (disch := omega) only [bd_s, bn_s, gi_nI, cl_nI, sU_s, sU_n, sU_sU, nI_1, nI_pred]
        have Xf := X_free1 hI1 hR1
        have Mf : ∀ σ : T2, σ 0 = (sU (sU g (32 + 6 * j + 3) 0) (32 + 6 * j + 2) 0) → fX11_freeStation σ = some (ob (-4) (fw (sU (sU g (32 + 6 * j + 3) 0) (32 + 6 * j + 2) 0) nb 0 ns)) := fun σ hσ => by
          rw [M_free1 (ns := ns) (nb := nb) (nr := nr) (nv := nv) (by rw [hσ]; exact hI1), hσ]
        have M0 : ∀ σ : T2, σ 0 = g → fX11_minute_14 (n + 1) σ (nI acc) (nI j) = (bd (fX11_freeStation (sU σ 0 (sU (sU g (32 + 6 * j + 3) 0) (32 + 6 * j + 2) 0))) (fun q80 => if q80 < 0 then (fX11_minute_98 (fX11_minute_14 n) (sU σ 0 (sU (sU g (32 + 6 * j + 3) 0) (32 + 6 * j + 2) 0)) (nI acc) (nI j)) else (bd (fX11_puts (sU σ 0 (sU (sU g (32 + 6 * j + 3) 0) (32 + 6 * j + 2) 0)) (nI j) (0 : Int32) q80) (fun q92 => fX11_minute_98 (fX11_minute_14 n) q92 (nI acc + 1) (nI j))))) := fun σ hσ => by
          rw [fX11_minute_14, ct1, if_neg (Mg σ hσ), M_ofB0 (by omega), bd_s, hσ, if_pos c.1, M_ofB5 (by omega), bd_s, ct4, hσ, if_neg c.2]
          simp (disch := omega) only [bd_s, bn_s, gi_nI, cl_nI, sU_s, sU_n, sU_sU, nI_1, nI_pred, ixB2, ixB3, hσ]
        have X0 : fX5_dockReadyBicycles_4 (n + 1) p (nI acc) (nI j) = (bd (fX5_firstWithFreeDock (sU p 1 (sU (sU (p 1) 3 (sU (p 1 3) j 0)) 2 (sU (p 1 2) j 0)))) (fun q39 => if q39 < 0 then (fX5_dockReadyBicycles_60 (fX5_dockReadyBicycles_4 n) (sU p 1 (sU (sU (p 1) 3 (sU (p 1 3) j 0)) 2 (sU (p 1 2) j 0))) (nI acc) (nI j)) else (bd (fX1_bring ((sU p 1 (sU (sU (p 1) 3 (sU (p 1 3) j 0)) 2 (sU (p 1 2) j 0))) 1) (nI j) (0 : Int32) q39) (fun q54 => bn (sU (sU p 1 (sU (sU (p 1) 3 (sU (p 1 3) j 0)) 2 (sU (p 1 2) j 0))) 1 q54) (fun S1_54 => fX5_dockReadyBicycles_60 (fX5_dockReadyBicycles_4 n) S1_54 (nI acc + 1) (nI j)))))) := by
          rw [fX5_dockReadyBicycles_4, if_neg Xg, X1, if_pos c, bd_s, if_neg ne10, Xr, bd_s, bn_s]
        cases e : fw (sU (sU g (32 + 6 * j + 3) 0) (32 + 6 * j + 2) 0) nb 0 ns with
        | none =>
          obtain ⟨acc', p', g', e1, e2, e3, e4, e5, e6⟩ := ih (j + 1) acc _ _ (by omega) (by omega) hI1 hR1
          refine ⟨acc', p', g', ?_, fun σ hσ => ?_, e3, e4, by omega, ?_⟩
          · rw [X0, Xf, bd_s, e, if_pos (by decide)]
            unfold fX5_dockReadyBicycles_60
            rw [nI_1]
            exact e1
          · rw [M0 σ hσ, Mf _ sU_s, bd_s, e, if_pos (by decide)]
            unfold fX11_minute_98
            rw [nI_1, e2 _ sU_s, sU_sU]
          · rw [e6]; simp (disch := omega) only [sU_n, sU_s]
        | some s =>
          obtain ⟨-, hs, hs2⟩ := fw_some ns 0 s e
          obtain ⟨d, d1, d2, d3, d4⟩ := fr_1 hI1 (show s < ns by omega) hs2
          have hI2 : IG (sU (sU (sU (sU g (32 + 6 * j + 3) 0) (32 + 6 * j + 2) 0) (32 + 6 * j) 0) (32 + 6 * j + 1) (nI s)) ns nb nr nv := IG_puts hI1 hj2 (Or.inl ⟨rfl, s, by omega, rfl, d, d1, d4, d3⟩)
          have hR2 : RR (sU (sU p 1 (sU (sU (p 1) 3 (sU (p 1 3) j 0)) 2 (sU (p 1 2) j 0))) 1 (sU (sU ((sU p 1 (sU (sU (p 1) 3 (sU (p 1 3) j 0)) 2 (sU (p 1 2) j 0))) 1) 0 (sU ((sU p 1 (sU (sU (p 1) 3 (sU (p 1 3) j 0)) 2 (sU (p 1 2) j 0))) 1 0) j 0)) 1 (sU ((sU p 1 (sU (sU (p 1) 3 (sU (p 1 3) j 0)) 2 (sU (p 1 2) j 0))) 1 1) j (nI s)))) (sU (sU (sU (sU g (32 + 6 * j + 3) 0) (32 + 6 * j + 2) 0) (32 + 6 * j) 0) (32 + 6 * j + 1) (nI s)) := by
            exact ⟨⟨(by (try simp (disch := omega) only [sU_n, sU_s]); exact a0), (by (try simp (disch := omega) only [sU_n, sU_s]); exact a1), (by (try simp (disch := omega) only [sU_n, sU_s]); exact a2), (by (try simp (disch := omega) only [sU_n, sU_s]); exact a3), (by (try simp (disch := omega) only [sU_n, sU_s]); exact a4), (fun i hi => by (try simp (disch := omega) only [sU_n, sU_s]); exact a5 i hi)⟩, ⟨(fun k9 hk9 => by (try simp (disch := omega) only [sU_n, sU_s]); exact s0 k9 hk9), (fun k9 hk9 => by (try simp (disch := omega) only [sU_n, sU_s]); exact s1 k9 hk9), (fun k9 hk9 => by (try simp (disch := omega) only [sU_n, sU_s]); exact s2 k9 hk9), (fun k9 hk9 => by (try simp (disch := omega) only [sU_n, sU_s]); exact s3 k9 hk9)⟩, ⟨(fun k9 hk9 => by
    by_cases e : k9 = j
    · subst e
      (try simp (disch := omega) only [sU_n, sU_s])
      all_goals (first | rfl | exact b0 _ hk9)
    · (try simp (disch := omega) only [sU_n, sU_s])
      exact b0 k9 hk9), (fun k9 hk9 => by
    by_cases e : k9 = j
    · subst e
      (try simp (disch := omega) only [sU_n, sU_s])
      all_goals (exact ((mp_nI (by omega)).mpr rfl).symm)
    · (try simp (disch := omega) only [sU_n, sU_s])
      exact b1 k9 hk9), (fun k9 hk9 => by
    by_cases e : k9 = j
    · subst e
      (try simp (disch := omega) only [sU_n, sU_s])
      all_goals (first | rfl | exact b2 _ hk9)
    · (try simp (disch := omega) only [sU_n, sU_s])
      exact b2 k9 hk9), (fun k9 hk9 => by
    by_cases e : k9 = j
    · subst e
      (try simp (disch := omega) only [sU_n, sU_s])
      all_goals (first | rfl | exact b3 _ hk9)
    · (try simp (disch := omega) only [sU_n, sU_s])
      exact b3 k9 hk9), (fun k9 hk9 => by
    by_cases e : k9 = j
    · subst e
      (try simp (disch := omega) only [sU_n, sU_s])
      all_goals (first | rfl | exact b4 _ hk9)
    · (try simp (disch := omega) only [sU_n, sU_s])
      exact b4 k9 hk9), (fun k9 hk9 => by
    by_cases e : k9 = j
    · subst e
      (try simp (disch := omega) only [sU_n, sU_s])
      all_goals (first | rfl | exact b5 _ hk9)
    · (try simp (disch := omega) only [sU_n, sU_s])
      exact b5 k9 hk9)⟩, ⟨(fun k9 hk9 => by (try simp (disch := omega) only [sU_n, sU_s]); exact r0 k9 hk9), (fun k9 hk9 => by (try simp (disch := omega) only [sU_n, sU_s]); exact r1 k9 hk9), (fun k9 hk9 => by (try simp (disch := omega) only [sU_n, sU_s]); exact r2 k9 hk9), (fun k9 hk9 => by (try simp (disch := omega) only [sU_n, sU_s]); exact r3 k9 hk9), (fun k9 hk9 => by (try simp (disch := omega) only [sU_n, sU_s]); exact r4 k9 hk9), (fun k9 hk9 => by (try simp (disch := omega) only [sU_n, sU_s]); exact r5 k9 hk9), (fun k9 hk9 => by (try simp (disch := omega) only [sU_n, sU_s]); exact r6 k9 hk9), (fun k9 hk9 => by (try simp (disch := omega) only [sU_n, sU_s]); exact r7 k9 hk9), (fun k9 hk9 => by (try simp (disch := omega) only [sU_n, sU_s]); exact r8 k9 hk9)⟩, ⟨(fun k9 hk9 => by (try simp (disch := omega) only [sU_n, sU_s]); exact v0 k9 hk9), (fun k9 hk9 => by (try simp (disch := omega) only [sU_n, sU_s]); exact v1 k9 hk9), (fun k9 hk9 => by (try simp (disch := omega) only [sU_n, sU_s]); exact v2 k9 hk9)⟩⟩
          obtain ⟨acc', p', g', e1, e2, e3, e4, e5, e6⟩ := ih (j + 1) (acc + 1) _ _ (by omega) (by omega) hI2 hR2
          refine ⟨acc', p', g', ?_, fun σ hσ => ?_, e3, e4, by omega, ?_⟩
          · rw [X0, Xf, bd_s, e, show ob (-1) (some s) = nI s from rfl, if_neg (nI_pos (by omega)), X_bringB (nb := nb) (by simp (disch := omega) only [sU_n, sU_s]; exact a1.trans h1) hb16 hj2, bd_s, bn_s]
            unfold fX5_dockReadyBicycles_60
            rw [nI_1, nI_1]
            exact e1
          · rw [M0 σ hσ, Mf _ sU_s, bd_s, e, show ob (-4) (some s) = nI s from rfl, if_neg (nI_pos (by omega)), M_puts (by omega), bd_s, sU_sU, sU_s]
            unfold fX11_minute_98
            rw [nI_1, nI_1, e2 _ sU_s, sU_sU]
          · rw [e6]; simp (disch := omega) only [sU_n, sU_s]
theorem minute_b {ns nb nr nv t : Nat} {p : T3} {g : T1} (hI : IG g ns nb nr nv) (hR : RR p g) (h4 : g 4 = nI t) (ht : t + 1 ≤ 9000) : ∃ (c : Nat) (p' : T3) (g' : T1), fX5_dockReadyBicycles (sU p 4 (sU (p 4) 1 (sU (p 4 1) 0 (p 4 1 0 + 1)))) = some (nI c, p') ∧ (∀ σ : T2, σ 0 = g → fX11_minute σ = some (nI c, sU σ 0 g')) ∧ IG g' ns nb nr nv ∧ RR p' g' ∧ c ≤ 16 ∧ g' 4 = nI (t + 1) := by
  have h16 : nb ≤ 16 := hI.1.2.2.2.2.2.1
  have hI1 : IG (sU g 4 (nI (t + 1))) ns nb nr nv := IG_time hI ht
  have hR1 : RR (sU p 4 (sU (p 4) 1 (sU (p 4 1) 0 (p 4 1 0 + 1)))) (sU g 4 (nI (t + 1))) := by
    obtain ⟨⟨a0, a1, a2, a3, a4, a5⟩, ⟨s0, s1, s2, s3⟩, ⟨b0, b1, b2, b3, b4, b5⟩, ⟨r0, r1, r2, r3, r4, r5, r6, r7, r8⟩, ⟨v0, v1, v2⟩⟩ := hR
    exact ⟨⟨(by (try simp (disch := omega) only [sU_n, sU_s]); exact a0), (by (try simp (disch := omega) only [sU_n, sU_s]); exact a1), (by (try simp (disch := omega) only [sU_n, sU_s]); exact a2), (by (try simp (disch := omega) only [sU_n, sU_s]); exact a3), (by
    simp (disch := omega) only [sU_n, sU_s]
    rw [a4, h4, nI_1]), (fun i hi => by (try simp (disch := omega) only [sU_n, sU_s]); exact a5 i hi)⟩, ⟨(fun k9 hk9 => by (try simp (disch := omega) only [sU_n, sU_s]); exact s0 k9 hk9), (fun k9 hk9 => by (try simp (disch := omega) only [sU_n, sU_s]); exact s1 k9 hk9), (fun k9 hk9 => by (try simp (disch := omega) only [sU_n, sU_s]); exact s2 k9 hk9), (fun k9 hk9 => by (try simp (disch := omega) only [sU_n, sU_s]); exact s3 k9 hk9)⟩, ⟨(fun k9 hk9 => by (try simp (disch := omega) only [sU_n, sU_s]); exact b0 k9 hk9), (fun k9 hk9 => by (try simp (disch := omega) only [sU_n, sU_s]); exact b1 k9 hk9), (fun k9 hk9 => by (try simp (disch := omega) only [sU_n, sU_s]); exact b2 k9 hk9), (fun k9 hk9 => by (try simp (disch := omega) only [sU_n, sU_s]); exact b3 k9 hk9), (fun k9 hk9 => by (try simp (disch := omega) only [sU_n, sU_s]); exact b4 k9 hk9), (fun k9 hk9 => by (try simp (disch := omega) only [sU_n, sU_s]); exact b5 k9 hk9)⟩, ⟨(fun k9 hk9 => by (try simp (disch := omega) only [sU_n, sU_s]); exact r0 k9 hk9), (fun k9 hk9 => by (try simp (disch := omega) only [sU_n, sU_s]); exact r1 k9 hk9), (fun k9 hk9 => by (try simp (disch := omega) only [sU_n, sU_s]); exact r2 k9 hk9), (fun k9 hk9 => by (try simp (disch := omega) only [sU_n, sU_s]); exact r3 k9 hk9), (fun k9 hk9 => by (try simp (disch := omega) only [sU_n, sU_s]); exact r4 k9 hk9), (fun k9 hk9 => by (try simp (disch := omega) only [sU_n, sU_s]); exact r5 k9 hk9), (fun k9 hk9 => by (try simp (disch := omega) only [sU_n, sU_s]); exact r6 k9 hk9), (fun k9 hk9 => by (try simp (disch := omega) only [sU_n, sU_s]); exact r7 k9 hk9), (fun k9 hk9 => by (try simp (disch := omega) only [sU_n, sU_s]); exact r8 k9 hk9)⟩, ⟨(fun k9 hk9 => by (try simp (disch := omega) only [sU_n, sU_s]); exact v0 k9 hk9), (fun k9 hk9 => by (try simp (disch := omega) only [sU_n, sU_s]); exact v1 k9 hk9), (fun k9 hk9 => by (try simp (disch := omega) only [sU_n, sU_s]); exact v2 k9 hk9)⟩⟩
  obtain ⟨c, p', g', e1, e2, e3, e4, e5, e6⟩ := dock_lp fuel 0 0 _ _ (Nat.zero_le _) (by unfold fuel; omega) hI1 hR1
  refine ⟨c, p', g', e1, fun σ hσ => ?_, e3, e4, by omega, by rw [e6, sU_s]⟩
  rw [fX11_minute, ct4, hσ, h4, nI_1, bn_s]
  refine (e2 _ sU_s).trans ?_
  rw [sU_sU]
theorem pause_lp {ns nb nr nv m : Nat} (hm : m ≤ 200) : ∀ (n j acc t : Nat) (p : T3) (g : T1), j ≤ m → m - j < n → g 4 = nI t → t + (m - j) ≤ 9000 → acc ≤ 16 * j → IG g ns nb nr nv → RR p g → ∃ (acc' : Nat) (p' : T3) (g' : T1), fX5_letGoBy_33 (nI m) n p (nI acc) (nI j) = some (nI acc', p') ∧ (∀ σ : T2, σ 0 = g → fX11_pause_38 (nI m) n σ (nI acc) (nI j) = some (nI acc', sU σ 0 g')) ∧ IG g' ns nb nr nv ∧ RR p' g' ∧ acc' ≤ 3200 := by
  intro n
  induction n with
  | zero => intro j acc t p g h1 h2; omega
  | succ n ih =>
    intro j acc t p g h1 h2 h4 h5 h6 hI hR
    by_cases hj : j = m
    · refine ⟨acc, p, g, ?_, fun σ hσ => ?_, hI, hR, by omega⟩
      · rw [fX5_letGoBy_33, hj, if_pos (nI_le (Nat.le_refl _) (by omega))]
      · rw [fX11_pause_38, hj, if_pos (nI_le (Nat.le_refl _) (by omega)), ← hσ, sU_id]
    · obtain ⟨c, p1, g1, e1, e2, e3, e4, e5, e6⟩ := minute_b hI hR h4 (by omega)
      obtain ⟨acc', p', g', f1, f2, f3, f4, f5⟩ := ih (j + 1) (acc + c) (t + 1) p1 g1 (by omega) (by omega) e6 (by omega) (by omega) e3 e4
      refine ⟨acc', p', g', ?_, fun σ hσ => ?_, f3, f4, f5⟩
      · rw [fX5_letGoBy_33, if_neg (nI_ge (by omega) (by omega)), bn_s, e1, bd_s, nI_add, nI_1]
        exact f1
      · rw [fX11_pause_38, if_neg (nI_ge (by omega) (by omega)), e2 σ hσ, bd_s, nI_add, nI_1, f2 _ sU_s, sU_sU]
theorem op_pause {p : T3} {g : T1} (hI : OK g) (hR : RR p g) (p1 : Int32) : OPR g (fX5_letGoBy p p1) (fun σ => fX11_pause σ p1) := by
  obtain ⟨ns, nb, nr, nv, hI⟩ := hI
  obtain ⟨⟨h0, h1, h2, h3, hs6, hb16, hr8, hv2⟩, ⟨tm, h4, ht⟩, ⟨⟨t5, h5, ht5⟩, ⟨t6, h6, ht6, ht6b⟩, ⟨t7, h7, ht7⟩⟩, hpl, hdk, hbc, hrd, hvn, hzS, hzB, hzR, hzV⟩ := id hI
  obtain ⟨⟨a0, a1, a2, a3, a4, a5⟩, ⟨s0, s1, s2, s3⟩, ⟨b0, b1, b2, b3, b4, b5⟩, ⟨r0, r1, r2, r3, r4, r5, r6, r7, r8⟩, ⟨v0, v1, v2⟩⟩ := id hR
  by_cases c1 : p1 < 1
  · exact opr_e (-1) (by decide) (p' := p) (by rw [fX5_letGoBy, if_pos c1]) (fun σ σc hσ _ => by rw [fX11_pause, M_in0 c1, bd_s, if_pos rfl])
  by_cases c2 : (200 : Int32) < p1
  · exact opr_e (-1) (by decide) (p' := p) (by rw [fX5_letGoBy, if_neg c1, if_neg (lt_nle c2)]) (fun σ σc hσ _ => by rw [fX11_pause, M_in1 c1 c2, bd_s, if_pos rfl])
  obtain ⟨m, hm, hm2, rfl⟩ := ofI (a := 1) (b := 200) (by decide) (by decide) c1 c2
  by_cases c : tm + m ≤ 9000
  · have c3 : nI tm + nI m ≤ 9000 := by rw [nI_add]; exact nI_le (b := 9000) c (by decide)
    obtain ⟨acc', p', g', e1, e2, e3, e4, e5⟩ := pause_lp (m := m) hm2 fuel 0 0 tm p g (Nat.zero_le _) (by unfold fuel; omega) h4 (by omega) (by omega) hI hR
    refine opr_o (nI acc') g' (nI_pos (by omega)) (p' := p') ?_ (fun σ σc hσ hC => ?_) ⟨ns, nb, nr, nv, e3⟩ e4
    · rw [fX5_letGoBy, if_neg c1, if_pos (nlt_le c2), a4, h4, if_pos c3]
      exact e1
    · obtain ⟨hc1, hc2⟩ := hC
      rw [fX11_pause, M_in2 c1 c2, bd_s, if_neg ne10, ct4, hσ, h4, if_pos c3, hc1, bd_s]
      exact e2 σc (hc2.trans hσ)
  · have c3 : ¬ nI tm + nI m ≤ 9000 := by rw [nI_add]; exact nI_ge (a := 9000) (by omega) (by omega)
    refine opr_e (-3) (by decide) (p' := p) ?_ (fun σ σc hσ hC => ?_)
    · rw [fX5_letGoBy, if_neg c1, if_pos (nlt_le c2), a4, h4, if_neg c3]
    · rw [fX11_pause, M_in2 c1 c2, bd_s, if_neg ne10, ct4, hσ, h4, if_neg c3]
