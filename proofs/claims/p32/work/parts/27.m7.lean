/-! MATH 7: the changes: take, put, mend, set -/
def atN (g : T1) (b : Nat) (st wh : Int32) : Int32 := if g (32 + 6 * b) = st ∧ g (32 + 6 * b + 1) = wh then 1 else 0
theorem M_isAt {σ : T2} {b : Nat} {st wh : Int32} (hb : b < 16) : fX11_isAt σ (nI b) st wh = some (atN (σ 0) b st wh) := by
  rw [fX11_isAt, M_ofB0 hb, bd_s]
  unfold atN
  by_cases c1 : σ 0 (32 + 6 * b) = st
  · rw [if_pos c1, M_ofB1 hb, bd_s]
    by_cases c2 : σ 0 (32 + 6 * b + 1) = wh
    · rw [if_pos c2, if_pos ⟨c1, c2⟩]
    · rw [if_neg c2, if_neg (fun q => c2 q.2)]
  · rw [if_neg c1, if_neg (fun q => c1 q.1)]
theorem X_isAt {p : T3} {g : T1} {ns nb nr nv b j : Nat} {st : Int32} (hI : IG g ns nb nr nv) (hR : RR p g) (hb : b < nb) (hj : j < 1000) : fX1_isAt (p 1) (nI b) st (nI j) = some (atN g b st (nI j)) := by
  have h16 : nb ≤ 16 := hI.1.2.2.2.2.2.1
  rw [fX1_isAt, X1_has hI hR, hs_t hb (by omega), bd_s, if_neg ne10, gi_nI (by omega) (by decide), cl_nI (by omega), hR.2.2.1.1 b (by omega), hR.2.2.1.2.1 b (by omega), gi_nI (by omega) (by decide)]
  unfold atN
  by_cases c1 : g (32 + 6 * b) = st
  · rw [if_pos c1]
    by_cases c2 : g (32 + 6 * b + 1) = nI j
    · rw [if_pos ((mp_nI hj).mpr c2), if_pos ⟨c1, c2⟩]
    · rw [if_neg (fun q => c2 ((mp_nI hj).mp q)), if_neg (fun q => c2 q.2)]
  · rw [if_neg c1, if_neg (fun q => c1 q.1)]
theorem at_1 {g : T1} {b : Nat} {st wh : Int32} (h : ¬ atN g b st wh = 0) : g (32 + 6 * b) = st ∧ g (32 + 6 * b + 1) = wh := by
  unfold atN at h
  by_cases c : g (32 + 6 * b) = st ∧ g (32 + 6 * b + 1) = wh
  · exact c
  · rw [if_neg c] at h; exact absurd rfl h
theorem X_bring {p : T3} {g : T1} {ns nb nr nv b : Nat} {x y : Int32} (hI : IG g ns nb nr nv) (hR : RR p g) (hb : b < nb) : fX1_bring (p 1) (nI b) x y = some (sU (sU (p 1) 0 (sU (p 1 0) b x)) 1 (sU (p 1 1) b y)) := by
  have h16 : nb ≤ 16 := hI.1.2.2.2.2.2.1
  rw [fX1_bring, X1_has hI hR, hs_t hb (by omega), bd_s, if_neg ne10]
  simp (disch := omega) only [bd_s, bn_s, gi_nI, cl_nI, sU_s, sU_n, sU_sU, nI_1, nI_pred]
theorem X_hand {p : T3} {g : T1} {ns nb nr nv b v : Nat} (hI : IG g ns nb nr nv) (hR : RR p g) (hb : b < nb) (hv : v < nv) : fX5_canHandOut p (nI v) (nI b) = some (if uw g v = 0 then atN g b 2 (nI v) else 0) := by
  have h2 : nv ≤ 2 := hI.1.2.2.2.2.2.2.2
  rw [fX5_canHandOut, X_under hI hR hv, bd_s]
  by_cases c : uw g v = 0
  · rw [if_pos c, X_isAt hI hR hb (by omega), bd_s, if_pos c]
    by_cases c2 : atN g b 2 (nI v) = 0
    · rw [if_pos c2, c2]
    · rw [if_neg c2]
      obtain ⟨q1, q2⟩ := at_1 c2
      unfold atN
      rw [if_pos ⟨q1, q2⟩]
  · rw [if_neg c, if_neg c]
set_option maxHeartbeats 4000000 in
theorem op_take {p : T3} {g : T1} (hI : OK g) (hR : RR p g) (p1 p2 : Int32) : OPR g (fX5_load p p1 p2) (fun σ => fX11_take σ p1 p2) := by
  obtain ⟨ns, nb, nr, nv, hI⟩ := hI
  obtain ⟨⟨h0, h1, h2, h3, hs6, hb16, hr8, hv2⟩, ⟨tm, h4, ht⟩, ⟨⟨t5, h5, ht5⟩, ⟨t6, h6, ht6, ht6b⟩, ⟨t7, h7, ht7⟩⟩, hpl, hdk, hbc, hrd, hvn, hzS, hzB, hzR, hzV⟩ := id hI
  obtain ⟨⟨a0, a1, a2, a3, a4, a5⟩, ⟨s0, s1, s2, s3⟩, ⟨b0, b1, b2, b3, b4, b5⟩, ⟨r0, r1, r2, r3, r4, r5, r6, r7, r8⟩, ⟨v0, v1, v2⟩⟩ := id hR
  by_cases hv : inN p1 nv
  case neg =>
    refine opr_e (-1) (by decide) (p' := p) ?_ (fun σ σc hσ _ => ?_)
    · rw [fX5_load, X8_has hI hR, hs_f hv (by omega), bd_s, if_pos rfl]
    · rw [fX11_take, M_isVan (by rw [hσ]; exact h3), hs_f hv (by omega), bd_s, if_pos rfl]
  obtain ⟨v, hv, rfl⟩ := hv
  have Xv : fX8_has (p 3) (nI v) = some 1 := by rw [X8_has hI hR, hs_t hv (by omega)]
  have Mv : ∀ σ : T2, σ 0 = g → fX11_isVan σ (nI v) = some 1 := fun σ hσ => by rw [M_isVan (by rw [hσ]; exact h3), hs_t hv (by omega)]
  by_cases hb : inN p2 nb
  case neg =>
    refine opr_e (-1) (by decide) (p' := p) ?_ (fun σ σc hσ _ => ?_)
    · rw [fX5_load, Xv, bd_s, if_neg ne10, X1_has hI hR, hs_f hb (by omega), bd_s, if_pos rfl]
    · rw [fX11_take, Mv σ hσ, bd_s, if_neg ne10, M_isBicycle (by rw [hσ]; exact h1), hs_f hb (by omega), bd_s, if_pos rfl]
  obtain ⟨b, hb, rfl⟩ := hb
  have Xb : fX1_has (p 1) (nI b) = some 1 := by rw [X1_has hI hR, hs_t hb (by omega)]
  have Mb : ∀ σ : T2, σ 0 = g → fX11_isBicycle σ (nI b) = some 1 := fun σ hσ => by rw [M_isBicycle (by rw [hσ]; exact h1), hs_t hb (by omega)]
  have M1 : ∀ σ : T2, σ 0 = g → fX11_isUnderWay σ (nI v) = some (uw g v) := fun σ hσ => by rw [M_under (by omega), hσ]
  obtain ⟨⟨j, hj, ej⟩, m, hm, hm2, hm3⟩ := hvn v hv
  have hcb := cw_le g 2 (nI v) nb
  have M2 : ∀ σ : T2, σ 0 = g → fX11_carried σ (nI v) = some (nI (cw g 2 (nI v) nb)) := fun σ hσ => by rw [M_carried (by rw [hσ]; exact h1) hb16, hσ]
  have M3 : ∀ σ : T2, σ 0 = g → fX11_isAt σ (nI b) 0 (nI j) = some (atN g b 0 (nI j)) := fun σ hσ => by rw [M_isAt (by omega), hσ]
  have X1 : fX5_load p (nI v) (nI b) = (if uw g v = 0 then (if nI m ≤ nI (cw g 2 (nI v) nb) then some (-2, p) else if atN g b 0 (nI j) = 0 then some (-2, p) else some (nI (cw g 2 (nI v) nb + 1), sU p 1 (sU (sU (p 1) 0 (sU (p 1 0) b 2)) 1 (sU (p 1 1) b (nI v))))) else some (-2, p)) := by
    rw [fX5_load, Xv, bd_s, if_neg ne10, Xb, bd_s, if_neg ne10, X_countAt hI hR 2 (by omega), bd_s, gi_nI (by omega) (by decide), cl_nI (by omega), v0 v (by omega), ej, X_isAt hI hR hb (by omega), bd_s, X_under hI hR hv, bd_s, gi_nI (by omega) (by decide), v1 v (by omega), hm, X_bring hI hR hb, bd_s, bn_s, nI_1]
  have M0 : ∀ σ : T2, σ 0 = g → fX11_take σ (nI v) (nI b) = (if uw g v = 0 then (if nI (cw g 2 (nI v) nb) = nI m then some (-2, σ) else if atN g b 0 (nI j) = 0 then some (-2, σ) else bd (fX11_changes σ) (fun q59 => bd (fX11_puts q59 (nI b) 2 (nI v)) (fun q66 => bd (fX11_carried q66 (nI v)) (fun q71 => some (q71, q66))))) else some (-2, σ)) := fun σ hσ => by
    rw [fX11_take, Mv σ hσ, bd_s, if_neg ne10, Mb σ hσ, bd_s, if_neg ne10, M1 σ hσ, bd_s, M2 σ hσ, bd_s, M_ofV1 (by omega), bd_s, M_ofV0 (by omega), bd_s, hσ, hm, ej, M3 σ hσ, bd_s]
  by_cases c1 : uw g v = 0
  case neg => exact opr_e (-2) (by decide) (p' := p) (by rw [X1, if_neg c1]) (fun σ σc hσ _ => by rw [M0 σ hσ, if_neg c1])
  by_cases c2 : cw g 2 (nI v) nb = m
  · exact opr_e (-2) (by decide) (p' := p) (by rw [X1, if_pos c1, if_pos (by rw [c2]; exact nI_le (Nat.le_refl _) (by omega))]) (fun σ σc hσ _ => by rw [M0 σ hσ, if_pos c1, if_pos (by rw [c2])])
  have c2X : ¬ nI m ≤ nI (cw g 2 (nI v) nb) := nI_ge (by omega) (by omega)
  have c2M : ¬ nI (cw g 2 (nI v) nb) = nI m := fun e => c2 ((nI_eq (by omega) (by omega)).mp e)
  by_cases c3 : atN g b 0 (nI j) = 0
  · exact opr_e (-2) (by decide) (p' := p) (by rw [X1, if_pos c1, if_neg c2X, if_pos c3]) (fun σ σc hσ _ => by rw [M0 σ hσ, if_pos c1, if_neg c2M, if_pos c3])
  obtain ⟨s9, w9⟩ := at_1 c3
  have hcw : cw (sU (sU g (32 + 6 * b) 2) (32 + 6 * b + 1) (nI v)) 2 (nI v) nb = cw g 2 (nI v) nb + 1 := by
    have q := cw_put (g := g) (g' := (sU (sU g (32 + 6 * b) 2) (32 + 6 * b + 1) (nI v))) (st := 2) (wh := nI v) (b := b) nb hb (fun i hi hne => by constructor <;> simp (disch := omega) only [sU_n, sU_s])
    rw [if_neg (fun q => by rw [s9] at q; exact absurd q.1 (by decide)), if_pos (by constructor <;> simp (disch := omega) only [sU_n, sU_s])] at q
    omega
  refine opr_o (nI (cw g 2 (nI v) nb + 1)) (sU (sU g (32 + 6 * b) 2) (32 + 6 * b + 1) (nI v)) (nI_pos (by omega)) (p' := sU p 1 (sU (sU (p 1) 0 (sU (p 1 0) b 2)) 1 (sU (p 1 1) b (nI v)))) (by rw [X1, if_pos c1, if_neg c2X, if_neg c3]) (fun σ σc hσ hC => ?_) ⟨ns, nb, nr, nv, IG_puts hI hb (Or.inr (Or.inr (Or.inl ⟨rfl, v, hv, rfl, m, hm, by omega, hm2⟩)))⟩ ?_
  · obtain ⟨hc1, hc2⟩ := hC
    rw [M0 σ hσ, if_pos c1, if_neg c2M, if_neg c3, hc1, bd_s, M_puts (by omega), bd_s, M_carried (nb := nb) (by rw [sU_s, hc2, hσ]; simp (disch := omega) only [sU_n, sU_s]; exact h1) hb16, bd_s, sU_s, hc2, hσ, hcw]
  · exact ⟨⟨(by (try simp (disch := omega) only [sU_n, sU_s]); exact a0), (by (try simp (disch := omega) only [sU_n, sU_s]); exact a1), (by (try simp (disch := omega) only [sU_n, sU_s]); exact a2), (by (try simp (disch := omega) only [sU_n, sU_s]); exact a3), (by (try simp (disch := omega) only [sU_n, sU_s]); exact a4), (fun i hi => by (try simp (disch := omega) only [sU_n, sU_s]); exact a5 i hi)⟩, ⟨(fun k9 hk9 => by (try simp (disch := omega) only [sU_n, sU_s]); exact s0 k9 hk9), (fun k9 hk9 => by (try simp (disch := omega) only [sU_n, sU_s]); exact s1 k9 hk9), (fun k9 hk9 => by (try simp (disch := omega) only [sU_n, sU_s]); exact s2 k9 hk9), (fun k9 hk9 => by (try simp (disch := omega) only [sU_n, sU_s]); exact s3 k9 hk9)⟩, ⟨(fun k9 hk9 => by
    by_cases e : k9 = b
    · subst e
      (try simp (disch := omega) only [sU_n, sU_s])
      all_goals (first | rfl | exact b0 _ hk9)
    · (try simp (disch := omega) only [sU_n, sU_s])
      exact b0 k9 hk9), (fun k9 hk9 => by
    by_cases e : k9 = b
    · subst e
      (try simp (disch := omega) only [sU_n, sU_s])
      all_goals (exact ((mp_nI (by omega)).mpr rfl).symm)
    · (try simp (disch := omega) only [sU_n, sU_s])
      exact b1 k9 hk9), (fun k9 hk9 => by
    by_cases e : k9 = b
    · subst e
      (try simp (disch := omega) only [sU_n, sU_s])
      all_goals (first | rfl | exact b2 _ hk9)
    · (try simp (disch := omega) only [sU_n, sU_s])
      exact b2 k9 hk9), (fun k9 hk9 => by
    by_cases e : k9 = b
    · subst e
      (try simp (disch := omega) only [sU_n, sU_s])
      all_goals (first | rfl | exact b3 _ hk9)
    · (try simp (disch := omega) only [sU_n, sU_s])
      exact b3 k9 hk9), (fun k9 hk9 => by
    by_cases e : k9 = b
    · subst e
      (try simp (disch := omega) only [sU_n, sU_s])
      all_goals (first | rfl | exact b4 _ hk9)
    · (try simp (disch := omega) only [sU_n, sU_s])
      exact b4 k9 hk9), (fun k9 hk9 => by
    by_cases e : k9 = b
    · subst e
      (try simp (disch := omega) only [sU_n, sU_s])
      all_goals (first | rfl | exact b5 _ hk9)
    · (try simp (disch := omega) only [sU_n, sU_s])
      exact b5 k9 hk9)⟩, ⟨(fun k9 hk9 => by (try simp (disch := omega) only [sU_n, sU_s]); exact r0 k9 hk9), (fun k9 hk9 => by (try simp (disch := omega) only [sU_n, sU_s]); exact r1 k9 hk9), (fun k9 hk9 => by (try simp (disch := omega) only [sU_n, sU_s]); exact r2 k9 hk9), (fun k9 hk9 => by (try simp (disch := omega) only [sU_n, sU_s]); exact r3 k9 hk9), (fun k9 hk9 => by (try simp (disch := omega) only [sU_n, sU_s]); exact r4 k9 hk9), (fun k9 hk9 => by (try simp (disch := omega) only [sU_n, sU_s]); exact r5 k9 hk9), (fun k9 hk9 => by (try simp (disch := omega) only [sU_n, sU_s]); exact r6 k9 hk9), (fun k9 hk9 => by (try simp (disch := omega) only [sU_n, sU_s]); exact r7 k9 hk9), (fun k9 hk9 => by (try simp (disch := omega) only [sU_n, sU_s]); exact r8 k9 hk9)⟩, ⟨(fun k9 hk9 => by (try simp (disch := omega) only [sU_n, sU_s]); exact v0 k9 hk9), (fun k9 hk9 => by (try simp (disch := omega) only [sU_n, sU_s]); exact v1 k9 hk9), (fun k9 hk9 => by (try simp (disch := omega) only [sU_n, sU_s]); exact v2 k9 hk9)⟩⟩
set_option maxHeartbeats 4000000 in
theorem op_put {p : T3} {g : T1} (hI : OK g) (hR : RR p g) (p1 p2 : Int32) : OPR g (fX5_unload p p1 p2) (fun σ => fX11_put σ p1 p2) := by
  obtain ⟨ns, nb, nr, nv, hI⟩ := hI
  obtain ⟨⟨h0, h1, h2, h3, hs6, hb16, hr8, hv2⟩, ⟨tm, h4, ht⟩, ⟨⟨t5, h5, ht5⟩, ⟨t6, h6, ht6, ht6b⟩, ⟨t7, h7, ht7⟩⟩, hpl, hdk, hbc, hrd, hvn, hzS, hzB, hzR, hzV⟩ := id hI
  obtain ⟨⟨a0, a1, a2, a3, a4, a5⟩, ⟨s0, s1, s2, s3⟩, ⟨b0, b1, b2, b3, b4, b5⟩, ⟨r0, r1, r2, r3, r4, r5, r6, r7, r8⟩, ⟨v0, v1, v2⟩⟩ := id hR
  by_cases hv : inN p1 nv
  case neg =>
    refine opr_e (-1) (by decide) (p' := p) ?_ (fun σ σc hσ _ => ?_)
    · rw [fX5_unload, X8_has hI hR, hs_f hv (by omega), bd_s, if_pos rfl]
    · rw [fX11_put, M_isVan (by rw [hσ]; exact h3), hs_f hv (by omega), bd_s, if_pos rfl]
  obtain ⟨v, hv, rfl⟩ := hv
  have Xv : fX8_has (p 3) (nI v) = some 1 := by rw [X8_has hI hR, hs_t hv (by omega)]
  have Mv : ∀ σ : T2, σ 0 = g → fX11_isVan σ (nI v) = some 1 := fun σ hσ => by rw [M_isVan (by rw [hσ]; exact h3), hs_t hv (by omega)]
  by_cases hb : inN p2 nb
  case neg =>
    refine opr_e (-1) (by decide) (p' := p) ?_ (fun σ σc hσ _ => ?_)
    · rw [fX5_unload, Xv, bd_s, if_neg ne10, X1_has hI hR, hs_f hb (by omega), bd_s, if_pos rfl]
    · rw [fX11_put, Mv σ hσ, bd_s, if_neg ne10, M_isBicycle (by rw [hσ]; exact h1), hs_f hb (by omega), bd_s, if_pos rfl]
  obtain ⟨b, hb, rfl⟩ := hb
  have Xb : fX1_has (p 1) (nI b) = some 1 := by rw [X1_has hI hR, hs_t hb (by omega)]
  have Mb : ∀ σ : T2, σ 0 = g → fX11_isBicycle σ (nI b) = some 1 := fun σ hσ => by rw [M_isBicycle (by rw [hσ]; exact h1), hs_t hb (by omega)]
  have M1 : ∀ σ : T2, σ 0 = g → fX11_isUnderWay σ (nI v) = some (uw g v) := fun σ hσ => by rw [M_under (by omega), hσ]
  obtain ⟨⟨j, hj, ej⟩, m, hm, hm2, hm3⟩ := hvn v hv
  have M3 : ∀ σ : T2, σ 0 = g → fX11_isAt σ (nI b) 2 (nI v) = some (atN g b 2 (nI v)) := fun σ hσ => by rw [M_isAt (by omega), hσ]
  have M4 : ∀ σ : T2, σ 0 = g → fX11_isFree σ (nI j) = some (fr g nb j) := fun σ hσ => by rw [M_free (ns := ns) (nb := nb) (nr := nr) (nv := nv) (by rw [hσ]; exact hI) hj, hσ]
  have X1 : fX5_unload p (nI v) (nI b) = (if (if uw g v = 0 then atN g b 2 (nI v) else 0) = 0 then some (-2, p) else if fr g nb j = 0 then some (-2, p) else bd (fX1_countAt (sU (sU (p 1) 0 (sU (p 1 0) b 0)) 1 (sU (p 1 1) b (nI j))) 2 (nI v)) (fun q => some (q, sU p 1 (sU (sU (p 1) 0 (sU (p 1 0) b 0)) 1 (sU (p 1 1) b (nI j)))))) := by
    rw [fX5_unload, Xv, bd_s, if_neg ne10, Xb, bd_s, if_neg ne10, gi_nI (by omega) (by decide), X_hand hI hR hb hv, bd_s, cl_nI (by omega), v0 v (by omega), ej, X_free hI hR hj, bd_s, X_bring hI hR hb, bd_s, bn_s, sU_s]
  have M0 : ∀ σ : T2, σ 0 = g → fX11_put σ (nI v) (nI b) = (if uw g v = 0 then (if atN g b 2 (nI v) = 0 then some (-2, σ) else if fr g nb j = 0 then some (-2, σ) else bd (fX11_changes σ) (fun q53 => bd (fX11_ofVan q53 (nI v) 0) (fun q62 => bd (fX11_puts q53 (nI b) 0 q62) (fun q65 => bd (fX11_carried q65 (nI v)) (fun q70 => some (q70, q65)))))) else some (-2, σ)) := fun σ hσ => by
    rw [fX11_put, Mv σ hσ, bd_s, if_neg ne10, Mb σ hσ, bd_s, if_neg ne10, M1 σ hσ, bd_s, M3 σ hσ, bd_s, M_ofV0 (by omega), bd_s, hσ, ej, M4 σ hσ, bd_s]
  by_cases c1 : uw g v = 0
  case neg => exact opr_e (-2) (by decide) (p' := p) (by rw [X1, if_neg c1, if_pos rfl]) (fun σ σc hσ _ => by rw [M0 σ hσ, if_neg c1])
  by_cases c2 : atN g b 2 (nI v) = 0
  · exact opr_e (-2) (by decide) (p' := p) (by rw [X1, if_pos c1, if_pos c2]) (fun σ σc hσ _ => by rw [M0 σ hσ, if_pos c1, if_pos c2])
  by_cases c3 : fr g nb j = 0
  · exact opr_e (-2) (by decide) (p' := p) (by rw [X1, if_pos c1, if_neg c2, if_pos c3]) (fun σ σc hσ _ => by rw [M0 σ hσ, if_pos c1, if_neg c2, if_pos c3])
  obtain ⟨d, d1, d2, d3, d4⟩ := fr_1 hI hj c3
  have hI2 : IG (sU (sU g (32 + 6 * b) 0) (32 + 6 * b + 1) (nI j)) ns nb nr nv := IG_puts hI hb (Or.inl ⟨rfl, j, hj, rfl, d, d1, d4, d3⟩)
  have hR2 : RR (sU p 1 (sU (sU (p 1) 0 (sU (p 1 0) b 0)) 1 (sU (p 1 1) b (nI j)))) (sU (sU g (32 + 6 * b) 0) (32 + 6 * b + 1) (nI j)) := ⟨⟨(by (try simp (disch := omega) only [sU_n, sU_s]); exact a0), (by (try simp (disch := omega) only [sU_n, sU_s]); exact a1), (by (try simp (disch := omega) only [sU_n, sU_s]); exact a2), (by (try simp (disch := omega) only [sU_n, sU_s]); exact a3), (by (try simp (disch := omega) only [sU_n, sU_s]); exact a4), (fun i hi => by (try simp (disch := omega) only [sU_n, sU_s]); exact a5 i hi)⟩, ⟨(fun k9 hk9 => by (try simp (disch := omega) only [sU_n, sU_s]); exact s0 k9 hk9), (fun k9 hk9 => by (try simp (disch := omega) only [sU_n, sU_s]); exact s1 k9 hk9), (fun k9 hk9 => by (try simp (disch := omega) only [sU_n, sU_s]); exact s2 k9 hk9), (fun k9 hk9 => by (try simp (disch := omega) only [sU_n, sU_s]); exact s3 k9 hk9)⟩, ⟨(fun k9 hk9 => by
    by_cases e : k9 = b
    · subst e
      (try simp (disch := omega) only [sU_n, sU_s])
      all_goals (first | rfl | exact b0 _ hk9)
    · (try simp (disch := omega) only [sU_n, sU_s])
      exact b0 k9 hk9), (fun k9 hk9 => by
    by_cases e : k9 = b
    · subst e
      (try simp (disch := omega) only [sU_n, sU_s])
      all_goals (exact ((mp_nI (by omega)).mpr rfl).symm)
    · (try simp (disch := omega) only [sU_n, sU_s])
      exact b1 k9 hk9), (fun k9 hk9 => by
    by_cases e : k9 = b
    · subst e
      (try simp (disch := omega) only [sU_n, sU_s])
      all_goals (first | rfl | exact b2 _ hk9)
    · (try simp (disch := omega) only [sU_n, sU_s])
      exact b2 k9 hk9), (fun k9 hk9 => by
    by_cases e : k9 = b
    · subst e
      (try simp (disch := omega) only [sU_n, sU_s])
      all_goals (first | rfl | exact b3 _ hk9)
    · (try simp (disch := omega) only [sU_n, sU_s])
      exact b3 k9 hk9), (fun k9 hk9 => by
    by_cases e : k9 = b
    · subst e
      (try simp (disch := omega) only [sU_n, sU_s])
      all_goals (first | rfl | exact b4 _ hk9)
    · (try simp (disch := omega) only [sU_n, sU_s])
      exact b4 k9 hk9), (fun k9 hk9 => by
    by_cases e : k9 = b
    · subst e
      (try simp (disch := omega) only [sU_n, sU_s])
      all_goals (first | rfl | exact b5 _ hk9)
    · (try simp (disch := omega) only [sU_n, sU_s])
      exact b5 k9 hk9)⟩, ⟨(fun k9 hk9 => by (try simp (disch := omega) only [sU_n, sU_s]); exact r0 k9 hk9), (fun k9 hk9 => by (try simp (disch := omega) only [sU_n, sU_s]); exact r1 k9 hk9), (fun k9 hk9 => by (try simp (disch := omega) only [sU_n, sU_s]); exact r2 k9 hk9), (fun k9 hk9 => by (try simp (disch := omega) only [sU_n, sU_s]); exact r3 k9 hk9), (fun k9 hk9 => by (try simp (disch := omega) only [sU_n, sU_s]); exact r4 k9 hk9), (fun k9 hk9 => by (try simp (disch := omega) only [sU_n, sU_s]); exact r5 k9 hk9), (fun k9 hk9 => by (try simp (disch := omega) only [sU_n, sU_s]); exact r6 k9 hk9), (fun k9 hk9 => by (try simp (disch := omega) only [sU_n, sU_s]); exact r7 k9 hk9), (fun k9 hk9 => by (try simp (disch := omega) only [sU_n, sU_s]); exact r8 k9 hk9)⟩, ⟨(fun k9 hk9 => by (try simp (disch := omega) only [sU_n, sU_s]); exact v0 k9 hk9), (fun k9 hk9 => by (try simp (disch := omega) only [sU_n, sU_s]); exact v1 k9 hk9), (fun k9 hk9 => by (try simp (disch := omega) only [sU_n, sU_s]); exact v2 k9 hk9)⟩⟩
  have hcb := cw_le (sU (sU g (32 + 6 * b) 0) (32 + 6 * b + 1) (nI j)) 2 (nI v) nb
  refine opr_o (nI (cw (sU (sU g (32 + 6 * b) 0) (32 + 6 * b + 1) (nI j)) 2 (nI v) nb)) (sU (sU g (32 + 6 * b) 0) (32 + 6 * b + 1) (nI j)) (nI_pos (by omega)) (p' := sU p 1 (sU (sU (p 1) 0 (sU (p 1 0) b 0)) 1 (sU (p 1 1) b (nI j)))) ?_ (fun σ σc hσ hC => ?_) ⟨ns, nb, nr, nv, hI2⟩ hR2
  · have q := X_countAt hI2 hR2 2 (k := v) (by omega)
    rw [sU_s] at q
    rw [X1, if_pos c1, if_neg c2, if_neg c3, q, bd_s]
  · obtain ⟨hc1, hc2⟩ := hC
    rw [M0 σ hσ, if_pos c1, if_neg c2, if_neg c3, hc1, bd_s, M_ofV0 (by omega), bd_s, hc2, hσ, ej, M_puts (by omega), bd_s, M_carried (nb := nb) (by rw [sU_s, hc2, hσ]; simp (disch := omega) only [sU_n, sU_s]; exact h1) hb16, bd_s, sU_s, hc2, hσ]
set_option maxHeartbeats 4000000 in
theorem op_mend {p : T3} {g : T1} (hI : OK g) (hR : RR p g) (p1 p2 : Int32) : OPR g (fX5_handOver p p1 p2) (fun σ => fX11_mend σ p1 p2) := by
  obtain ⟨ns, nb, nr, nv, hI⟩ := hI
  obtain ⟨⟨h0, h1, h2, h3, hs6, hb16, hr8, hv2⟩, ⟨tm, h4, ht⟩, ⟨⟨t5, h5, ht5⟩, ⟨t6, h6, ht6, ht6b⟩, ⟨t7, h7, ht7⟩⟩, hpl, hdk, hbc, hrd, hvn, hzS, hzB, hzR, hzV⟩ := id hI
  obtain ⟨⟨a0, a1, a2, a3, a4, a5⟩, ⟨s0, s1, s2, s3⟩, ⟨b0, b1, b2, b3, b4, b5⟩, ⟨r0, r1, r2, r3, r4, r5, r6, r7, r8⟩, ⟨v0, v1, v2⟩⟩ := id hR
  by_cases hv : inN p1 nv
  case neg =>
    refine opr_e (-1) (by decide) (p' := p) ?_ (fun σ σc hσ _ => ?_)
    · rw [fX5_handOver, X8_has hI hR, hs_f hv (by omega), bd_s, if_pos rfl]
    · rw [fX11_mend, M_isVan (by rw [hσ]; exact h3), hs_f hv (by omega), bd_s, if_pos rfl]
  obtain ⟨v, hv, rfl⟩ := hv
  have Xv : fX8_has (p 3) (nI v) = some 1 := by rw [X8_has hI hR, hs_t hv (by omega)]
  have Mv : ∀ σ : T2, σ 0 = g → fX11_isVan σ (nI v) = some 1 := fun σ hσ => by rw [M_isVan (by rw [hσ]; exact h3), hs_t hv (by omega)]
  by_cases hb : inN p2 nb
  case neg =>
    refine opr_e (-1) (by decide) (p' := p) ?_ (fun σ σc hσ _ => ?_)
    · rw [fX5_handOver, Xv, bd_s, if_neg ne10, X1_has hI hR, hs_f hb (by omega), bd_s, if_pos rfl]
    · rw [fX11_mend, Mv σ hσ, bd_s, if_neg ne10, M_isBicycle (by rw [hσ]; exact h1), hs_f hb (by omega), bd_s, if_pos rfl]
  obtain ⟨b, hb, rfl⟩ := hb
  have Xb : fX1_has (p 1) (nI b) = some 1 := by rw [X1_has hI hR, hs_t hb (by omega)]
  have Mb : ∀ σ : T2, σ 0 = g → fX11_isBicycle σ (nI b) = some 1 := fun σ hσ => by rw [M_isBicycle (by rw [hσ]; exact h1), hs_t hb (by omega)]
  have M1 : ∀ σ : T2, σ 0 = g → fX11_isUnderWay σ (nI v) = some (uw g v) := fun σ hσ => by rw [M_under (by omega), hσ]
  obtain ⟨⟨j, hj, ej⟩, m, hm, hm2, hm3⟩ := hvn v hv
  have M3 : ∀ σ : T2, σ 0 = g → fX11_isAt σ (nI b) 2 (nI v) = some (atN g b 2 (nI v)) := fun σ hσ => by rw [M_isAt (by omega), hσ]
  have e46 : nI tm + nI t6 = nI (tm + t6) := nI_add _ _
  have X1 : fX5_handOver p (nI v) (nI b) = (if (if uw g v = 0 then atN g b 2 (nI v) else 0) = 0 then some (-2, p) else if nI j = 0 then some (nI (tm + t6), sU p 1 (sU (sU (sU (p 1) 0 (sU (p 1 0) b 3)) 1 (sU (p 1 1) b (-1))) 5 (sU (p 1 5) b (nI (tm + t6))))) else some (-2, p)) := by
    rw [fX5_handOver, Xv, bd_s, if_neg ne10, Xb, bd_s, if_neg ne10, X_hand hI hR hb hv, bd_s, gi_nI (by omega) (by decide), cl_nI (by omega), v0 v (by omega), ej, X_bring hI hR hb, bd_s]
    simp (disch := omega) only [bd_s, bn_s, gi_nI, cl_nI, sU_s, sU_n, sU_sU, nI_1, nI_pred, ct1]
    rw [a4.trans h4, (a5 1 (by omega)).trans h6, e46]
  have M0 : ∀ σ : T2, σ 0 = g → fX11_mend σ (nI v) (nI b) = (if uw g v = 0 then (if nI j = 0 then (if atN g b 2 (nI v) = 0 then some (-2, σ) else bd (fX11_changes σ) (fun q49 => bd (fX11_puts q49 (nI b) 3 (-4)) (fun q57 => gi (((32 : Int32) + ((6 : Int32) * nI b)) + 5) 206 (bn (sU q57 0 (sU (q57 0) (((32 : Int32) + ((6 : Int32) * nI b)) + 5).toNatClampNeg ((q57 0 (4 : Int32).toNatClampNeg) + (q57 0 (6 : Int32).toNatClampNeg)))) (fun S1_87 => bd (fX11_ofBicycle S1_87 (nI b) (5 : Int32)) (fun q91 => some (q91, S1_87))))))) else some (-2, σ)) else some (-2, σ)) := fun σ hσ => by
    rw [fX11_mend, Mv σ hσ, bd_s, if_neg ne10, Mb σ hσ, bd_s, if_neg ne10, M1 σ hσ, bd_s, M_ofV0 (by omega), bd_s, hσ, ej, M3 σ hσ, bd_s]
  by_cases c1 : uw g v = 0
  case neg => exact opr_e (-2) (by decide) (p' := p) (by rw [X1, if_neg c1, if_pos rfl]) (fun σ σc hσ _ => by rw [M0 σ hσ, if_neg c1])
  by_cases c2 : atN g b 2 (nI v) = 0
  · refine opr_e (-2) (by decide) (p' := p) (by rw [X1, if_pos c1, if_pos c2]) (fun σ σc hσ _ => ?_)
    rw [M0 σ hσ, if_pos c1]
    by_cases c3 : nI j = 0
    · rw [if_pos c3, if_pos c2]
    · rw [if_neg c3]
  by_cases c3 : nI j = 0
  case neg => exact opr_e (-2) (by decide) (p' := p) (by rw [X1, if_pos c1, if_neg c2, if_neg c3]) (fun σ σc hσ _ => by rw [M0 σ hσ, if_pos c1, if_neg c3])
  refine opr_o (nI (tm + t6)) (sU (sU (sU g (32 + 6 * b) 3) (32 + 6 * b + 1) (-4)) (32 + 6 * b + 5) (nI (tm + t6))) (nI_pos (by omega)) (p' := sU p 1 (sU (sU (sU (p 1) 0 (sU (p 1 0) b 3)) 1 (sU (p 1 1) b (-1))) 5 (sU (p 1 5) b (nI (tm + t6))))) (by rw [X1, if_pos c1, if_neg c2, if_pos c3]) (fun σ σc hσ hC => ?_) ⟨ns, nb, nr, nv, IG_free (IG_puts hI hb (Or.inr (Or.inr (Or.inr ⟨rfl, rfl⟩)))) (by omega) (by intros; omega) (by intros; omega) (by intros; omega) (by intros; omega)⟩ ?_
  · obtain ⟨hc1, hc2⟩ := hC
    rw [M0 σ hσ, if_pos c1, if_pos c3, if_neg c2, hc1, bd_s, M_puts (by omega), bd_s]
    simp (disch := omega) only [bd_s, bn_s, gi_nI, cl_nI, sU_s, sU_n, sU_sU, nI_1, nI_pred, ixB5, hc2, hσ, ct4, h4, ct6, h6, e46, M_ofB5]
  · exact ⟨⟨(by (try simp (disch := omega) only [sU_n, sU_s]); exact a0), (by (try simp (disch := omega) only [sU_n, sU_s]); exact a1), (by (try simp (disch := omega) only [sU_n, sU_s]); exact a2), (by (try simp (disch := omega) only [sU_n, sU_s]); exact a3), (by (try simp (disch := omega) only [sU_n, sU_s]); exact a4), (fun i hi => by (try simp (disch := omega) only [sU_n, sU_s]); exact a5 i hi)⟩, ⟨(fun k9 hk9 => by (try simp (disch := omega) only [sU_n, sU_s]); exact s0 k9 hk9), (fun k9 hk9 => by (try simp (disch := omega) only [sU_n, sU_s]); exact s1 k9 hk9), (fun k9 hk9 => by (try simp (disch := omega) only [sU_n, sU_s]); exact s2 k9 hk9), (fun k9 hk9 => by (try simp (disch := omega) only [sU_n, sU_s]); exact s3 k9 hk9)⟩, ⟨(fun k9 hk9 => by
    by_cases e : k9 = b
    · subst e
      (try simp (disch := omega) only [sU_n, sU_s])
      all_goals (first | rfl | exact b0 _ hk9)
    · (try simp (disch := omega) only [sU_n, sU_s])
      exact b0 k9 hk9), (fun k9 hk9 => by
    by_cases e : k9 = b
    · subst e
      (try simp (disch := omega) only [sU_n, sU_s])
      all_goals (first | rfl | decide)
    · (try simp (disch := omega) only [sU_n, sU_s])
      exact b1 k9 hk9), (fun k9 hk9 => by
    by_cases e : k9 = b
    · subst e
      (try simp (disch := omega) only [sU_n, sU_s])
      all_goals (first | rfl | exact b2 _ hk9)
    · (try simp (disch := omega) only [sU_n, sU_s])
      exact b2 k9 hk9), (fun k9 hk9 => by
    by_cases e : k9 = b
    · subst e
      (try simp (disch := omega) only [sU_n, sU_s])
      all_goals (first | rfl | exact b3 _ hk9)
    · (try simp (disch := omega) only [sU_n, sU_s])
      exact b3 k9 hk9), (fun k9 hk9 => by
    by_cases e : k9 = b
    · subst e
      (try simp (disch := omega) only [sU_n, sU_s])
      all_goals (first | rfl | exact b4 _ hk9)
    · (try simp (disch := omega) only [sU_n, sU_s])
      exact b4 k9 hk9), (fun k9 hk9 => by
    by_cases e : k9 = b
    · subst e
      (try simp (disch := omega) only [sU_n, sU_s])
      all_goals (first | rfl | exact b5 _ hk9)
    · (try simp (disch := omega) only [sU_n, sU_s])
      exact b5 k9 hk9)⟩, ⟨(fun k9 hk9 => by (try simp (disch := omega) only [sU_n, sU_s]); exact r0 k9 hk9), (fun k9 hk9 => by (try simp (disch := omega) only [sU_n, sU_s]); exact r1 k9 hk9), (fun k9 hk9 => by (try simp (disch := omega) only [sU_n, sU_s]); exact r2 k9 hk9), (fun k9 hk9 => by (try simp (disch := omega) only [sU_n, sU_s]); exact r3 k9 hk9), (fun k9 hk9 => by (try simp (disch := omega) only [sU_n, sU_s]); exact r4 k9 hk9), (fun k9 hk9 => by (try simp (disch := omega) only [sU_n, sU_s]); exact r5 k9 hk9), (fun k9 hk9 => by (try simp (disch := omega) only [sU_n, sU_s]); exact r6 k9 hk9), (fun k9 hk9 => by (try simp (disch := omega) only [sU_n, sU_s]); exact r7 k9 hk9), (fun k9 hk9 => by (try simp (disch := omega) only [sU_n, sU_s]); exact r8 k9 hk9)⟩, ⟨(fun k9 hk9 => by (try simp (disch := omega) only [sU_n, sU_s]); exact v0 k9 hk9), (fun k9 hk9 => by (try simp (disch := omega) only [sU_n, sU_s]); exact v1 k9 hk9), (fun k9 hk9 => by (try simp (disch := omega) only [sU_n, sU_s]); exact v2 k9 hk9)⟩⟩
theorem X_isSetting {p : T3} (q : Int32) : fX5_isSetting p q = hs q 3 := by
  unfold fX5_isSetting hs
  rfl
set_option maxHeartbeats 4000000 in
theorem op_set {p : T3} {g : T1} (hI : OK g) (hR : RR p g) (p1 p2 : Int32) : OPR g (fX5_changeSetting p p1 p2) (fun σ => fX11_set σ p1 p2) := by
  obtain ⟨ns, nb, nr, nv, hI⟩ := hI
  obtain ⟨⟨h0, h1, h2, h3, hs6, hb16, hr8, hv2⟩, ⟨tm, h4, ht⟩, ⟨⟨t5, h5, ht5⟩, ⟨t6, h6, ht6, ht6b⟩, ⟨t7, h7, ht7⟩⟩, hpl, hdk, hbc, hrd, hvn, hzS, hzB, hzR, hzV⟩ := id hI
  obtain ⟨⟨a0, a1, a2, a3, a4, a5⟩, ⟨s0, s1, s2, s3⟩, ⟨b0, b1, b2, b3, b4, b5⟩, ⟨r0, r1, r2, r3, r4, r5, r6, r7, r8⟩, ⟨v0, v1, v2⟩⟩ := id hR
  by_cases hk : inN p1 3
  case neg =>
    refine opr_e (-1) (by decide) (p' := p) ?_ (fun σ σc hσ _ => ?_)
    · rw [fX5_changeSetting, X_isSetting, hs_f hk (by decide), bd_s, if_pos rfl]
    · by_cases c1 : p1 < 0
      · rw [fX11_set, M_in0 c1, bd_s, if_pos rfl]
      · by_cases c2 : (2 : Int32) < p1
        · rw [fX11_set, M_in1 c1 c2, bd_s, if_pos rfl]
        · obtain ⟨x, -, hx, e⟩ := ofI (a := 0) (b := 2) (by decide) (by decide) c1 c2
          exact absurd ⟨x, by omega, e⟩ hk
  obtain ⟨k, hk, rfl⟩ := hk
  rcases (show k = 0 ∨ k = 1 ∨ k = 2 by omega) with rfl | rfl | rfl
  · -- setting 0
    have X1 : fX5_changeSetting p (nI 0) p2 = fX5_changeSetting_33 (nI 0) p2 p 0 99 := by
      rw [fX5_changeSetting, X_isSetting, hs_t (by omega) (by decide), bd_s, if_neg ne10]
      rfl
    have M1 : ∀ σ : T2, fX11_set σ (nI 0) p2 = fX11_set_32 (nI 0) p2 σ p2 0 99 := fun σ => by
      rw [fX11_set, M_in2 (by decide) (by decide), bd_s, if_neg ne10]
      rfl
    by_cases c1 : p2 < 0
    · exact opr_e (-1) (by decide) (p' := p) (by rw [X1, fX5_changeSetting_33, if_pos c1]) (fun σ σc hσ _ => by rw [M1, fX11_set_32, M_in0 c1, bd_s, if_pos rfl])
    by_cases c2 : (99 : Int32) < p2
    · exact opr_e (-1) (by decide) (p' := p) (by rw [X1, fX5_changeSetting_33, if_neg c1, if_neg (lt_nle c2)]) (fun σ σc hσ _ => by rw [M1, fX11_set_32, M_in1 c1 c2, bd_s, if_pos rfl])
    obtain ⟨x, hx, hx2, rfl⟩ := ofI (a := 0) (b := 99) (by decide) (by decide) c1 c2
    refine opr_o (nI t5) (sU g 5 (nI x)) (nI_pos (by omega)) (p' := sU p 4 (sU (p 4) 0 (sU (p 4 0) 0 (nI x)))) ?_ (fun σ σc hσ hC => ?_) ⟨ns, nb, nr, nv, IG_sett hI (by omega)⟩ ?_
    · rw [X1, fX5_changeSetting_33, if_neg c1, if_pos (nlt_le c2)]
      simp (disch := omega) only [bd_s, bn_s, gi_nI, cl_nI, sU_s, sU_n, sU_sU, nI_1, nI_pred]
      rw [a5 0 (by omega), h5]
    · obtain ⟨hc1, hc2⟩ := hC
      rw [M1, fX11_set_32, M_in2 c1 c2, bd_s, if_neg ne10, hc1, bd_s, show (5 : Int32) + nI 0 = nI 5 from nI_add 5 0]
      simp (disch := omega) only [bd_s, bn_s, gi_nI, cl_nI, sU_s, sU_n, sU_sU, nI_1, nI_pred, hc2, hσ, h5]
    · exact ⟨⟨(by (try simp (disch := omega) only [sU_n, sU_s]); exact a0), (by (try simp (disch := omega) only [sU_n, sU_s]); exact a1), (by (try simp (disch := omega) only [sU_n, sU_s]); exact a2), (by (try simp (disch := omega) only [sU_n, sU_s]); exact a3), (by (try simp (disch := omega) only [sU_n, sU_s]); exact a4), (fun i hi => by
        rcases (show i = 0 ∨ i = 1 ∨ i = 2 by omega) with rfl | rfl | rfl <;> (try simp (disch := omega) only [sU_n, sU_s]) <;> first | rfl | exact a5 _ (by omega))⟩, ⟨(fun k9 hk9 => by (try simp (disch := omega) only [sU_n, sU_s]); exact s0 k9 hk9), (fun k9 hk9 => by (try simp (disch := omega) only [sU_n, sU_s]); exact s1 k9 hk9), (fun k9 hk9 => by (try simp (disch := omega) only [sU_n, sU_s]); exact s2 k9 hk9), (fun k9 hk9 => by (try simp (disch := omega) only [sU_n, sU_s]); exact s3 k9 hk9)⟩, ⟨(fun k9 hk9 => by (try simp (disch := omega) only [sU_n, sU_s]); exact b0 k9 hk9), (fun k9 hk9 => by (try simp (disch := omega) only [sU_n, sU_s]); exact b1 k9 hk9), (fun k9 hk9 => by (try simp (disch := omega) only [sU_n, sU_s]); exact b2 k9 hk9), (fun k9 hk9 => by (try simp (disch := omega) only [sU_n, sU_s]); exact b3 k9 hk9), (fun k9 hk9 => by (try simp (disch := omega) only [sU_n, sU_s]); exact b4 k9 hk9), (fun k9 hk9 => by (try simp (disch := omega) only [sU_n, sU_s]); exact b5 k9 hk9)⟩, ⟨(fun k9 hk9 => by (try simp (disch := omega) only [sU_n, sU_s]); exact r0 k9 hk9), (fun k9 hk9 => by (try simp (disch := omega) only [sU_n, sU_s]); exact r1 k9 hk9), (fun k9 hk9 => by (try simp (disch := omega) only [sU_n, sU_s]); exact r2 k9 hk9), (fun k9 hk9 => by (try simp (disch := omega) only [sU_n, sU_s]); exact r3 k9 hk9), (fun k9 hk9 => by (try simp (disch := omega) only [sU_n, sU_s]); exact r4 k9 hk9), (fun k9 hk9 => by (try simp (disch := omega) only [sU_n, sU_s]); exact r5 k9 hk9), (fun k9 hk9 => by (try simp (disch := omega) only [sU_n, sU_s]); exact r6 k9 hk9), (fun k9 hk9 => by (try simp (disch := omega) only [sU_n, sU_s]); exact r7 k9 hk9), (fun k9 hk9 => by (try simp (disch := omega) only [sU_n, sU_s]); exact r8 k9 hk9)⟩, ⟨(fun k9 hk9 => by (try simp (disch := omega) only [sU_n, sU_s]); exact v0 k9 hk9), (fun k9 hk9 => by (try simp (disch := omega) only [sU_n, sU_s]); exact v1 k9 hk9), (fun k9 hk9 => by (try simp (disch := omega) only [sU_n, sU_s]); exact v2 k9 hk9)⟩⟩
  · -- setting 1
    have X1 : fX5_changeSetting p (nI 1) p2 = fX5_changeSetting_33 (nI 1) p2 p 1 999 := by
      rw [fX5_changeSetting, X_isSetting, hs_t (by omega) (by decide), bd_s, if_neg ne10]
      rfl
    have M1 : ∀ σ : T2, fX11_set σ (nI 1) p2 = fX11_set_32 (nI 1) p2 σ p2 1 999 := fun σ => by
      rw [fX11_set, M_in2 (by decide) (by decide), bd_s, if_neg ne10]
      rfl
    by_cases c1 : p2 < 1
    · exact opr_e (-1) (by decide) (p' := p) (by rw [X1, fX5_changeSetting_33, if_pos c1]) (fun σ σc hσ _ => by rw [M1, fX11_set_32, M_in0 c1, bd_s, if_pos rfl])
    by_cases c2 : (999 : Int32) < p2
    · exact opr_e (-1) (by decide) (p' := p) (by rw [X1, fX5_changeSetting_33, if_neg c1, if_neg (lt_nle c2)]) (fun σ σc hσ _ => by rw [M1, fX11_set_32, M_in1 c1 c2, bd_s, if_pos rfl])
    obtain ⟨x, hx, hx2, rfl⟩ := ofI (a := 1) (b := 999) (by decide) (by decide) c1 c2
    refine opr_o (nI t6) (sU g 6 (nI x)) (nI_pos (by omega)) (p' := sU p 4 (sU (p 4) 0 (sU (p 4 0) 1 (nI x)))) ?_ (fun σ σc hσ hC => ?_) ⟨ns, nb, nr, nv, IG_sett hI (by omega)⟩ ?_
    · rw [X1, fX5_changeSetting_33, if_neg c1, if_pos (nlt_le c2)]
      simp (disch := omega) only [bd_s, bn_s, gi_nI, cl_nI, sU_s, sU_n, sU_sU, nI_1, nI_pred]
      rw [a5 1 (by omega), h6]
    · obtain ⟨hc1, hc2⟩ := hC
      rw [M1, fX11_set_32, M_in2 c1 c2, bd_s, if_neg ne10, hc1, bd_s, show (5 : Int32) + nI 1 = nI 6 from nI_add 5 1]
      simp (disch := omega) only [bd_s, bn_s, gi_nI, cl_nI, sU_s, sU_n, sU_sU, nI_1, nI_pred, hc2, hσ, h6]
    · exact ⟨⟨(by (try simp (disch := omega) only [sU_n, sU_s]); exact a0), (by (try simp (disch := omega) only [sU_n, sU_s]); exact a1), (by (try simp (disch := omega) only [sU_n, sU_s]); exact a2), (by (try simp (disch := omega) only [sU_n, sU_s]); exact a3), (by (try simp (disch := omega) only [sU_n, sU_s]); exact a4), (fun i hi => by
        rcases (show i = 0 ∨ i = 1 ∨ i = 2 by omega) with rfl | rfl | rfl <;> (try simp (disch := omega) only [sU_n, sU_s]) <;> first | rfl | exact a5 _ (by omega))⟩, ⟨(fun k9 hk9 => by (try simp (disch := omega) only [sU_n, sU_s]); exact s0 k9 hk9), (fun k9 hk9 => by (try simp (disch := omega) only [sU_n, sU_s]); exact s1 k9 hk9), (fun k9 hk9 => by (try simp (disch := omega) only [sU_n, sU_s]); exact s2 k9 hk9), (fun k9 hk9 => by (try simp (disch := omega) only [sU_n, sU_s]); exact s3 k9 hk9)⟩, ⟨(fun k9 hk9 => by (try simp (disch := omega) only [sU_n, sU_s]); exact b0 k9 hk9), (fun k9 hk9 => by (try simp (disch := omega) only [sU_n, sU_s]); exact b1 k9 hk9), (fun k9 hk9 => by (try simp (disch := omega) only [sU_n, sU_s]); exact b2 k9 hk9), (fun k9 hk9 => by (try simp (disch := omega) only [sU_n, sU_s]); exact b3 k9 hk9), (fun k9 hk9 => by (try simp (disch := omega) only [sU_n, sU_s]); exact b4 k9 hk9), (fun k9 hk9 => by (try simp (disch := omega) only [sU_n, sU_s]); exact b5 k9 hk9)⟩, ⟨(fun k9 hk9 => by (try simp (disch := omega) only [sU_n, sU_s]); exact r0 k9 hk9), (fun k9 hk9 => by (try simp (disch := omega) only [sU_n, sU_s]); exact r1 k9 hk9), (fun k9 hk9 => by (try simp (disch := omega) only [sU_n, sU_s]); exact r2 k9 hk9), (fun k9 hk9 => by (try simp (disch := omega) only [sU_n, sU_s]); exact r3 k9 hk9), (fun k9 hk9 => by (try simp (disch := omega) only [sU_n, sU_s]); exact r4 k9 hk9), (fun k9 hk9 => by (try simp (disch := omega) only [sU_n, sU_s]); exact r5 k9 hk9), (fun k9 hk9 => by (try simp (disch := omega) only [sU_n, sU_s]); exact r6 k9 hk9), (fun k9 hk9 => by (try simp (disch := omega) only [sU_n, sU_s]); exact r7 k9 hk9), (fun k9 hk9 => by (try simp (disch := omega) only [sU_n, sU_s]); exact r8 k9 hk9)⟩, ⟨(fun k9 hk9 => by (try simp (disch := omega) only [sU_n, sU_s]); exact v0 k9 hk9), (fun k9 hk9 => by (try simp (disch := omega) only [sU_n, sU_s]); exact v1 k9 hk9), (fun k9 hk9 => by (try simp (disch := omega) only [sU_n, sU_s]); exact v2 k9 hk9)⟩⟩
  · -- setting 2
    have X1 : fX5_changeSetting p (nI 2) p2 = fX5_changeSetting_33 (nI 2) p2 p 0 999 := by
      rw [fX5_changeSetting, X_isSetting, hs_t (by omega) (by decide), bd_s, if_neg ne10]
      rfl
    have M1 : ∀ σ : T2, fX11_set σ (nI 2) p2 = fX11_set_32 (nI 2) p2 σ p2 0 999 := fun σ => by
      rw [fX11_set, M_in2 (by decide) (by decide), bd_s, if_neg ne10]
      rfl
    by_cases c1 : p2 < 0
    · exact opr_e (-1) (by decide) (p' := p) (by rw [X1, fX5_changeSetting_33, if_pos c1]) (fun σ σc hσ _ => by rw [M1, fX11_set_32, M_in0 c1, bd_s, if_pos rfl])
    by_cases c2 : (999 : Int32) < p2
    · exact opr_e (-1) (by decide) (p' := p) (by rw [X1, fX5_changeSetting_33, if_neg c1, if_neg (lt_nle c2)]) (fun σ σc hσ _ => by rw [M1, fX11_set_32, M_in1 c1 c2, bd_s, if_pos rfl])
    obtain ⟨x, hx, hx2, rfl⟩ := ofI (a := 0) (b := 999) (by decide) (by decide) c1 c2
    refine opr_o (nI t7) (sU g 7 (nI x)) (nI_pos (by omega)) (p' := sU p 4 (sU (p 4) 0 (sU (p 4 0) 2 (nI x)))) ?_ (fun σ σc hσ hC => ?_) ⟨ns, nb, nr, nv, IG_sett hI (by omega)⟩ ?_
    · rw [X1, fX5_changeSetting_33, if_neg c1, if_pos (nlt_le c2)]
      simp (disch := omega) only [bd_s, bn_s, gi_nI, cl_nI, sU_s, sU_n, sU_sU, nI_1, nI_pred]
      rw [a5 2 (by omega), h7]
    · obtain ⟨hc1, hc2⟩ := hC
      rw [M1, fX11_set_32, M_in2 c1 c2, bd_s, if_neg ne10, hc1, bd_s, show (5 : Int32) + nI 2 = nI 7 from nI_add 5 2]
      simp (disch := omega) only [bd_s, bn_s, gi_nI, cl_nI, sU_s, sU_n, sU_sU, nI_1, nI_pred, hc2, hσ, h7]
    · exact ⟨⟨(by (try simp (disch := omega) only [sU_n, sU_s]); exact a0), (by (try simp (disch := omega) only [sU_n, sU_s]); exact a1), (by (try simp (disch := omega) only [sU_n, sU_s]); exact a2), (by (try simp (disch := omega) only [sU_n, sU_s]); exact a3), (by (try simp (disch := omega) only [sU_n, sU_s]); exact a4), (fun i hi => by
        rcases (show i = 0 ∨ i = 1 ∨ i = 2 by omega) with rfl | rfl | rfl <;> (try simp (disch := omega) only [sU_n, sU_s]) <;> first | rfl | exact a5 _ (by omega))⟩, ⟨(fun k9 hk9 => by (try simp (disch := omega) only [sU_n, sU_s]); exact s0 k9 hk9), (fun k9 hk9 => by (try simp (disch := omega) only [sU_n, sU_s]); exact s1 k9 hk9), (fun k9 hk9 => by (try simp (disch := omega) only [sU_n, sU_s]); exact s2 k9 hk9), (fun k9 hk9 => by (try simp (disch := omega) only [sU_n, sU_s]); exact s3 k9 hk9)⟩, ⟨(fun k9 hk9 => by (try simp (disch := omega) only [sU_n, sU_s]); exact b0 k9 hk9), (fun k9 hk9 => by (try simp (disch := omega) only [sU_n, sU_s]); exact b1 k9 hk9), (fun k9 hk9 => by (try simp (disch := omega) only [sU_n, sU_s]); exact b2 k9 hk9), (fun k9 hk9 => by (try simp (disch := omega) only [sU_n, sU_s]); exact b3 k9 hk9), (fun k9 hk9 => by (try simp (disch := omega) only [sU_n, sU_s]); exact b4 k9 hk9), (fun k9 hk9 => by (try simp (disch := omega) only [sU_n, sU_s]); exact b5 k9 hk9)⟩, ⟨(fun k9 hk9 => by (try simp (disch := omega) only [sU_n, sU_s]); exact r0 k9 hk9), (fun k9 hk9 => by (try simp (disch := omega) only [sU_n, sU_s]); exact r1 k9 hk9), (fun k9 hk9 => by (try simp (disch := omega) only [sU_n, sU_s]); exact r2 k9 hk9), (fun k9 hk9 => by (try simp (disch := omega) only [sU_n, sU_s]); exact r3 k9 hk9), (fun k9 hk9 => by (try simp (disch := omega) only [sU_n, sU_s]); exact r4 k9 hk9), (fun k9 hk9 => by (try simp (disch := omega) only [sU_n, sU_s]); exact r5 k9 hk9), (fun k9 hk9 => by (try simp (disch := omega) only [sU_n, sU_s]); exact r6 k9 hk9), (fun k9 hk9 => by (try simp (disch := omega) only [sU_n, sU_s]); exact r7 k9 hk9), (fun k9 hk9 => by (try simp (disch := omega) only [sU_n, sU_s]); exact r8 k9 hk9)⟩, ⟨(fun k9 hk9 => by (try simp (disch := omega) only [sU_n, sU_s]); exact v0 k9 hk9), (fun k9 hk9 => by (try simp (disch := omega) only [sU_n, sU_s]); exact v1 k9 hk9), (fun k9 hk9 => by (try simp (disch := omega) only [sU_n, sU_s]); exact v2 k9 hk9)⟩⟩
