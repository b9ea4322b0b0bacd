/-! LAW 2: each call of the class as one step of the reference's row -/
section E2
variable {x : T5} {σ : T2} {g : T1} {ns nb nr nv : Nat}
set_option maxHeartbeats 4000000 in
theorem E_station (h : Rel x σ) (hσ : σ 0 = g) (hI : IG g ns nb nr nv) {a d : Nat} (ha : a ≤ 99) (hd : 1 ≤ d) (hd2 : d ≤ 8) (hn : ns < 6) : lStp σ (fX10_station x (nI a) (nI d)) (nI ns) (sU (sU (sU g (8 + 4 * ns) (nI a)) (8 + 4 * ns + 1) (nI d)) 0 (nI (ns + 1))) := by
  obtain ⟨⟨h0, h1, h2, h3, hs6, hb16, hr8, hv2⟩, ⟨tm', h4', ht⟩, ⟨⟨t5', h5', ht5⟩, ⟨t6', h6', ht6, ht6b⟩, ⟨t7', h7', ht7⟩⟩, hpl, hdk, hbc, hrd, hvn, hzS, hzB, hzR, hzV⟩ := id hI
  refine ls_o h (L_station h _ _) (fun σc hC => ?_)
  obtain ⟨hc1, hc2⟩ := hC
  obtain ⟨z1, z2⟩ := hzS ns (Nat.le_refl _) hn
  have i1 : fX11_in (nI a) 0 99 = some 1 := M_in2 (nI_pos (by omega)) (nI_nlt (a := 99) ha (by decide))
  have i2 : fX11_in (nI d) 1 8 = some 1 := M_in2 (nI_nlt (b := 1) hd (by omega)) (nI_nlt (a := 8) hd2 (by decide))
  have e2 : sU (sU (sU g (8 + 4 * ns) (nI a)) (8 + 4 * ns + 1) (nI d)) (8 + 4 * ns + 2) 0 = sU (sU g (8 + 4 * ns) (nI a)) (8 + 4 * ns + 1) (nI d) := su0 (by simp (disch := omega) only [sU_n]; exact z1)
  have e3 : sU (sU (sU g (8 + 4 * ns) (nI a)) (8 + 4 * ns + 1) (nI d)) (8 + 4 * ns + 3) 0 = sU (sU g (8 + 4 * ns) (nI a)) (8 + 4 * ns + 1) (nI d) := su0 (by simp (disch := omega) only [sU_n]; exact z2)
  rw [fX11_station, i1, bd_s, if_neg ne10, i2, bd_s, if_neg ne10, ct0, hσ, h0, if_neg (ne_i (x := 6) (b := 6) rfl (by omega) (by omega) (by omega)), hc1, bd_s]
  simp (disch := omega) only [bd_s, bn_s, gi_nI, cl_nI, sU_s, sU_n, sU_sU, nI_1, nI_pred, ixS0, ixS1, ixS2, ixS3, hc2, hσ, h0, ct0, e2, e3]
theorem E_station_f (h : Rel x σ) (hσ : σ 0 = g) (hI : IG g ns nb nr nv) {a d : Nat} (ha : a ≤ 99) (hd : 1 ≤ d) (hd2 : d ≤ 8) (hn : ns = 6) : lStp σ (fX10_station x (nI a) (nI d)) (-3) (σ 0) := by
  obtain ⟨⟨h0, h1, h2, h3, hs6, hb16, hr8, hv2⟩, ⟨tm', h4', ht⟩, ⟨⟨t5', h5', ht5⟩, ⟨t6', h6', ht6, ht6b⟩, ⟨t7', h7', ht7⟩⟩, hpl, hdk, hbc, hrd, hvn, hzS, hzB, hzR, hzV⟩ := id hI
  refine ls_e (L_station h _ _) ?_
  have i1 : fX11_in (nI a) 0 99 = some 1 := M_in2 (nI_pos (by omega)) (nI_nlt (a := 99) ha (by decide))
  have i2 : fX11_in (nI d) 1 8 = some 1 := M_in2 (nI_nlt (b := 1) hd (by omega)) (nI_nlt (a := 8) hd2 (by decide))
  rw [fX11_station, i1, bd_s, if_neg ne10, i2, bd_s, if_neg ne10, ct0, hσ, h0, if_pos (by rw [hn]; rfl)]
theorem E_bicycle (h : Rel x σ) (hσ : σ 0 = g) (hI : IG g ns nb nr nv) {k : Nat} (hk : k < ns) (hf : ¬ fr g nb k = 0) (c : nb < 16) : lStp σ (fX10_bicycle x (nI k)) (nI nb) (sU (sU g (32 + 6 * nb + 1) (nI k)) 1 (nI (nb + 1))) := by
  obtain ⟨⟨h0, h1, h2, h3, hs6, hb16, hr8, hv2⟩, ⟨tm', h4', ht⟩, ⟨⟨t5', h5', ht5⟩, ⟨t6', h6', ht6, ht6b⟩, ⟨t7', h7', ht7⟩⟩, hpl, hdk, hbc, hrd, hvn, hzS, hzB, hzR, hzV⟩ := id hI
  refine ls_o h (L_bicycle h _) (fun σc hC => ?_)
  obtain ⟨hc1, hc2⟩ := hC
  have Mk : fX11_isStation σ (nI k) = some 1 := by rw [M_isStation (by rw [hσ]; exact h0), hs_t hk (by omega)]
  have Mf : fX11_isFree σ (nI k) = some (fr g nb k) := by rw [M_free (ns := ns) (nb := nb) (nr := nr) (nv := nv) (by rw [hσ]; exact hI) hk, hσ]
  obtain ⟨q0, q1, q2, q3, q4, q5⟩ := hzB nb (Nat.le_refl _) c
  rw [fX11_bicycle, Mk, bd_s, if_neg ne10, Mf, bd_s, if_neg hf, ct1, hσ, h1, if_neg (ne_i (x := 16) (b := 16) rfl (by omega) (by omega) (by omega)), hc1, bd_s]
  refine (M_bicycle_lp (by omega) (fun w hw => ?_) fuel 0 (by omega) (by unfold fuel; omega)).trans ?_
  · rw [hc2, hσ]
    rcases (show w = 0 ∨ w = 1 ∨ w = 2 ∨ w = 3 ∨ w = 4 ∨ w = 5 by omega) with rfl | rfl | rfl | rfl | rfl | rfl <;> assumption
  · rw [hc2, hσ, h1, nI_1, su0 q0]
theorem E_bicycle_f (h : Rel x σ) (hσ : σ 0 = g) (hI : IG g ns nb nr nv) {k : Nat} (hk : k < ns) (hf : fr g nb k = 0) : lStp σ (fX10_bicycle x (nI k)) (-2) (σ 0) := by
  obtain ⟨⟨h0, h1, h2, h3, hs6, hb16, hr8, hv2⟩, ⟨tm', h4', ht⟩, ⟨⟨t5', h5', ht5⟩, ⟨t6', h6', ht6, ht6b⟩, ⟨t7', h7', ht7⟩⟩, hpl, hdk, hbc, hrd, hvn, hzS, hzB, hzR, hzV⟩ := id hI
  refine ls_e (L_bicycle h _) ?_
  have Mk : fX11_isStation σ (nI k) = some 1 := by rw [M_isStation (by rw [hσ]; exact h0), hs_t hk (by omega)]
  have Mf : fX11_isFree σ (nI k) = some (fr g nb k) := by rw [M_free (ns := ns) (nb := nb) (nr := nr) (nv := nv) (by rw [hσ]; exact hI) hk, hσ]
  rw [fX11_bicycle, Mk, bd_s, if_neg ne10, Mf, bd_s, if_pos hf]
theorem E_bicycle_m (h : Rel x σ) (hσ : σ 0 = g) (hI : IG g ns nb nr nv) {k : Nat} (hk : k < ns) (hf : ¬ fr g nb k = 0) (c : nb = 16) : lStp σ (fX10_bicycle x (nI k)) (-3) (σ 0) := by
  obtain ⟨⟨h0, h1, h2, h3, hs6, hb16, hr8, hv2⟩, ⟨tm', h4', ht⟩, ⟨⟨t5', h5', ht5⟩, ⟨t6', h6', ht6, ht6b⟩, ⟨t7', h7', ht7⟩⟩, hpl, hdk, hbc, hrd, hvn, hzS, hzB, hzR, hzV⟩ := id hI
  refine ls_e (L_bicycle h _) ?_
  have Mk : fX11_isStation σ (nI k) = some 1 := by rw [M_isStation (by rw [hσ]; exact h0), hs_t hk (by omega)]
  have Mf : fX11_isFree σ (nI k) = some (fr g nb k) := by rw [M_free (ns := ns) (nb := nb) (nr := nr) (nv := nv) (by rw [hσ]; exact hI) hk, hσ]
  rw [fX11_bicycle, Mk, bd_s, if_neg ne10, Mf, bd_s, if_neg hf, ct1, hσ, h1, if_pos (by rw [c]; rfl)]
theorem E_rider (h : Rel x σ) (hσ : σ 0 = g) (hI : IG g ns nb nr nv) (c : nr < 8) : lStp σ (fX10_rider x) (nI nr) (sU (sU g (128 + 9 * nr + 2) (-4)) 2 (nI (nr + 1))) := by
  obtain ⟨⟨h0, h1, h2, h3, hs6, hb16, hr8, hv2⟩, ⟨tm', h4', ht⟩, ⟨⟨t5', h5', ht5⟩, ⟨t6', h6', ht6, ht6b⟩, ⟨t7', h7', ht7⟩⟩, hpl, hdk, hbc, hrd, hvn, hzS, hzB, hzR, hzV⟩ := id hI
  refine ls_o h (L_rider h) (fun σc hC => ?_)
  obtain ⟨hc1, hc2⟩ := hC
  rw [fX11_rider, ct2, hσ, h2, if_neg (ne_i (x := 8) (b := 8) rfl (by omega) (by omega) (by omega)), hc1, bd_s]
  refine (M_rider_lp (by omega) (fun w hw => ?_) fuel 0 (by omega) (by unfold fuel; omega)).trans ?_
  · rw [hc2, hσ]
    obtain ⟨q0, q1, q2, q3, q4, q5, q6, q7, q8⟩ := hzR nr (Nat.le_refl _) (by omega)
    rcases (show w = 0 ∨ w = 1 ∨ w = 2 ∨ w = 3 ∨ w = 4 ∨ w = 5 ∨ w = 6 ∨ w = 7 ∨ w = 8 by omega) with rfl | rfl | rfl | rfl | rfl | rfl | rfl | rfl | rfl <;> assumption
  · rw [hc2, hσ, h2, nI_1]
theorem E_rider_f (h : Rel x σ) (hσ : σ 0 = g) (hI : IG g ns nb nr nv) (c : nr = 8) : lStp σ (fX10_rider x) (-3) (σ 0) := by
  obtain ⟨⟨h0, h1, h2, h3, hs6, hb16, hr8, hv2⟩, ⟨tm', h4', ht⟩, ⟨⟨t5', h5', ht5⟩, ⟨t6', h6', ht6, ht6b⟩, ⟨t7', h7', ht7⟩⟩, hpl, hdk, hbc, hrd, hvn, hzS, hzB, hzR, hzV⟩ := id hI
  refine ls_e (L_rider h) ?_
  rw [fX11_rider, ct2, hσ, h2, if_pos (by rw [c]; rfl)]
set_option maxHeartbeats 4000000 in
theorem E_van (h : Rel x σ) (hσ : σ 0 = g) (hI : IG g ns nb nr nv) {k m : Nat} (hk : k < ns) (hm : 1 ≤ m) (hm2 : m ≤ 6) (c : nv < 2) : lStp σ (fX10_van x (nI k) (nI m)) (nI nv) (sU (sU (sU g (200 + 3 * nv) (nI k)) (200 + 3 * nv + 1) (nI m)) 3 (nI (nv + 1))) := by
  obtain ⟨⟨h0, h1, h2, h3, hs6, hb16, hr8, hv2⟩, ⟨tm', h4', ht⟩, ⟨⟨t5', h5', ht5⟩, ⟨t6', h6', ht6, ht6b⟩, ⟨t7', h7', ht7⟩⟩, hpl, hdk, hbc, hrd, hvn, hzS, hzB, hzR, hzV⟩ := id hI
  refine ls_o h (L_van h _ _) (fun σc hC => ?_)
  obtain ⟨hc1, hc2⟩ := hC
  have Mk : fX11_isStation σ (nI k) = some 1 := by rw [M_isStation (by rw [hσ]; exact h0), hs_t hk (by omega)]
  have i2 : fX11_in (nI m) 1 6 = some 1 := M_in2 (nI_nlt (b := 1) hm (by omega)) (nI_nlt (a := 6) hm2 (by decide))
  have z := (hzV nv c).1 (Nat.le_refl _)
  have e2 : sU (sU (sU g (200 + 3 * nv) (nI k)) (200 + 3 * nv + 1) (nI m)) (200 + 3 * nv + 2) 0 = sU (sU g (200 + 3 * nv) (nI k)) (200 + 3 * nv + 1) (nI m) := su0 (by simp (disch := omega) only [sU_n]; exact z)
  rw [fX11_van, Mk, bd_s, if_neg ne10, i2, bd_s, if_neg ne10, ct3, hσ, h3, if_neg (ne_i (x := 2) (b := 2) rfl (by omega) (by omega) (by omega)), hc1, bd_s]
  simp (disch := omega) only [bd_s, bn_s, gi_nI, cl_nI, sU_s, sU_n, sU_sU, nI_1, nI_pred, ixV0, ixV1, ixV2, hc2, hσ, h3, ct3, e2]
theorem E_van_f (h : Rel x σ) (hσ : σ 0 = g) (hI : IG g ns nb nr nv) {k m : Nat} (hk : k < ns) (hm : 1 ≤ m) (hm2 : m ≤ 6) (c : nv = 2) : lStp σ (fX10_van x (nI k) (nI m)) (-3) (σ 0) := by
  obtain ⟨⟨h0, h1, h2, h3, hs6, hb16, hr8, hv2⟩, ⟨tm', h4', ht⟩, ⟨⟨t5', h5', ht5⟩, ⟨t6', h6', ht6, ht6b⟩, ⟨t7', h7', ht7⟩⟩, hpl, hdk, hbc, hrd, hvn, hzS, hzB, hzR, hzV⟩ := id hI
  refine ls_e (L_van h _ _) ?_
  have Mk : fX11_isStation σ (nI k) = some 1 := by rw [M_isStation (by rw [hσ]; exact h0), hs_t hk (by omega)]
  have i2 : fX11_in (nI m) 1 6 = some 1 := M_in2 (nI_nlt (b := 1) hm (by omega)) (nI_nlt (a := 6) hm2 (by decide))
  rw [fX11_van, Mk, bd_s, if_neg ne10, i2, bd_s, if_neg ne10, ct3, hσ, h3, if_pos (by rw [c]; rfl)]
set_option maxHeartbeats 4000000 in
theorem E_pass (h : Rel x σ) (hσ : σ 0 = g) (hI : IG g ns nb nr nv) {r u tm m : Nat} (hr : r < nr) (hu : g (128 + 9 * r + 1) = nI u) (hu2 : u ≤ 20000) (h4 : g 4 = nI tm) (htm : tm ≤ 9000) (hm : m = if u ≤ tm then tm else u) (c : m + 1000 ≤ 20000) : lStp σ (fX10_pass x (nI r)) (nI (m + 1000)) (sU (sU (sU g (128 + 9 * r + 1) (nI (m + 1000))) (128 + 9 * r) (g (128 + 9 * r) + g 7)) (128 + 9 * r + 8) (g (128 + 9 * r + 8) + g 7)) := by
  obtain ⟨⟨h0, h1, h2, h3, hs6, hb16, hr8, hv2⟩, ⟨tm', h4', ht⟩, ⟨⟨t5', h5', ht5⟩, ⟨t6', h6', ht6, ht6b⟩, ⟨t7', h7', ht7⟩⟩, hpl, hdk, hbc, hrd, hvn, hzS, hzB, hzR, hzV⟩ := id hI
  refine ls_o h (L_pass h _) (fun σc hC => ?_)
  obtain ⟨hc1, hc2⟩ := hC
  have Mr : fX11_isRider σ (nI r) = some 1 := by rw [M_isRider (by rw [hσ]; exact h2), hs_t hr (by omega)]
  have M1 : fX11_pass σ (nI r) = fX11_pass_33 (nI r) σ (nI m) := by
    rw [fX11_pass, Mr, bd_s, if_neg ne10, M_hasPass (by omega), hσ, hu, h4]
    by_cases c : u ≤ tm
    · rw [if_pos (nI_le c (by omega)), bd_s, if_pos rfl, ct4, h4, hm, if_pos c]
    · rw [if_neg (nI_ge (by omega) (by omega)), bd_s, if_neg ne10, M_ofR1 (by omega), bd_s, hσ, hu, hm, if_neg c]
  have c2 : nI m + 1000 ≤ 20000 := by
    rw [show nI m + 1000 = nI (m + 1000) from nI_add m 1000]
    exact nI_le c (by decide)
  rw [M1, fX11_pass_33, if_pos c2, hc1, bd_s, show nI m + 1000 = nI (m + 1000) from nI_add m 1000]
  simp (disch := omega) only [bd_s, bn_s, gi_nI, cl_nI, sU_s, sU_n, sU_sU, nI_1, nI_pred, ixR0, ixR1, ixR8, hc2, hσ, ct7]
theorem E_pass_f (h : Rel x σ) (hσ : σ 0 = g) (hI : IG g ns nb nr nv) {r u tm m : Nat} (hr : r < nr) (hu : g (128 + 9 * r + 1) = nI u) (hu2 : u ≤ 20000) (h4 : g 4 = nI tm) (htm : tm ≤ 9000) (hm : m = if u ≤ tm then tm else u) (c : ¬ m + 1000 ≤ 20000) : lStp σ (fX10_pass x (nI r)) (-3) (σ 0) := by
  obtain ⟨⟨h0, h1, h2, h3, hs6, hb16, hr8, hv2⟩, ⟨tm', h4', ht⟩, ⟨⟨t5', h5', ht5⟩, ⟨t6', h6', ht6, ht6b⟩, ⟨t7', h7', ht7⟩⟩, hpl, hdk, hbc, hrd, hvn, hzS, hzB, hzR, hzV⟩ := id hI
  refine ls_e (L_pass h _) ?_
  have Mr : fX11_isRider σ (nI r) = some 1 := by rw [M_isRider (by rw [hσ]; exact h2), hs_t hr (by omega)]
  have M1 : fX11_pass σ (nI r) = fX11_pass_33 (nI r) σ (nI m) := by
    rw [fX11_pass, Mr, bd_s, if_neg ne10, M_hasPass (by omega), hσ, hu, h4]
    by_cases c : u ≤ tm
    · rw [if_pos (nI_le c (by omega)), bd_s, if_pos rfl, ct4, h4, hm, if_pos c]
    · rw [if_neg (nI_ge (by omega) (by omega)), bd_s, if_neg ne10, M_ofR1 (by omega), bd_s, hσ, hu, hm, if_neg c]
  have hm2 : m ≤ 20000 := by rw [hm]; split <;> omega
  have c2 : ¬ nI m + 1000 ≤ 20000 := by
    rw [show nI m + 1000 = nI (m + 1000) from nI_add m 1000]
    exact nI_ge (a := 20000) (by omega) (by omega)
  rw [M1, fX11_pass_33, if_neg c2]
theorem E_rent_f (h : Rel x σ) (hσ : σ 0 = g) (hI : IG g ns nb nr nv) {r k : Nat} (hr : r < nr) (hk : k < ns) (hbad : ¬ rdN g r = 0 ∨ bs g (nI k) nb = none) : lStp σ (fX10_rent x (nI r) (nI k)) (-2) (σ 0) := by
  obtain ⟨⟨h0, h1, h2, h3, hs6, hb16, hr8, hv2⟩, ⟨tm', h4', ht⟩, ⟨⟨t5', h5', ht5⟩, ⟨t6', h6', ht6, ht6b⟩, ⟨t7', h7', ht7⟩⟩, hpl, hdk, hbc, hrd, hvn, hzS, hzB, hzR, hzV⟩ := id hI
  refine ls_e (L_rent h _ _) ?_
  have Mr : fX11_isRider σ (nI r) = some 1 := by rw [M_isRider (by rw [hσ]; exact h2), hs_t hr (by omega)]
  have Mk : fX11_isStation σ (nI k) = some 1 := by rw [M_isStation (by rw [hσ]; exact h0), hs_t hk (by omega)]
  have M2 : fX11_rides σ (nI r) = some (rdN g r) := by rw [M_rides (nb := nb) (by omega) (by rw [hσ]; exact hrd r hr) hb16, hσ]
  have M1 : ∃ n', fX11_rent σ (nI r) (nI k) = fX11_rent_24 (nI r) (nI k) (n' + 1) σ (ob (-4) (bs g (nI k) nb)) (nI nb) := by
    rw [fX11_rent, Mr, bd_s, if_neg ne10, Mk, bd_s, if_neg ne10]
    obtain ⟨n', hn⟩ := M_best (σ := σ) (nb := nb) (r := nI r) (p2 := nI k) (by rw [hσ]; exact h1) hb16 fuel 0 (by omega) (by unfold fuel; omega)
    rw [hσ] at hn
    exact ⟨n', hn⟩
  obtain ⟨n', hn⟩ := M1
  rw [hn, fX11_rent_24, ct1, hσ, h1, if_pos (nI_le (Nat.le_refl _) (by omega)), M2, bd_s]
  by_cases c1 : rdN g r = 0
  · rcases hbad with q | q
    · exact absurd c1 q
    · rw [if_pos c1, q, if_neg (by decide)]
  · rw [if_neg c1]
set_option maxHeartbeats 4000000 in
theorem E_rent_a (h : Rel x σ) (hσ : σ 0 = g) (hI : IG g ns nb nr nv) {r k b u tm : Nat} (hr : r < nr) (hk : k < ns) (c1 : rdN g r = 0) (hb : bs g (nI k) nb = some b) (hu : g (128 + 9 * r + 1) = nI u) (hu2 : u ≤ 20000) (h4 : g 4 = nI tm) (htm : tm ≤ 9000) (c : u ≤ tm) : lStp σ (fX10_rent x (nI r) (nI k)) (nI b) (sU (sU (sU (sU (sU (sU (sU (sU g (32 + 6 * b) 1) (32 + 6 * b + 1) (nI r)) (128 + 9 * r + 2) (nI b)) (128 + 9 * r + 3) (nI tm)) (128 + 9 * r + 5) 0) (128 + 9 * r + 4) (nI 0)) (128 + 9 * r + 6) 0) (8 + 4 * k + 2) (g (8 + 4 * k + 2) + 1)) := by
  obtain ⟨⟨h0, h1, h2, h3, hs6, hb16, hr8, hv2⟩, ⟨tm', h4', ht⟩, ⟨⟨t5', h5', ht5⟩, ⟨t6', h6', ht6, ht6b⟩, ⟨t7', h7', ht7⟩⟩, hpl, hdk, hbc, hrd, hvn, hzS, hzB, hzR, hzV⟩ := id hI
  refine ls_o h (L_rent h _ _) (fun σc hC => ?_)
  obtain ⟨hc1, hc2⟩ := hC
  have Mr : fX11_isRider σ (nI r) = some 1 := by rw [M_isRider (by rw [hσ]; exact h2), hs_t hr (by omega)]
  have Mk : fX11_isStation σ (nI k) = some 1 := by rw [M_isStation (by rw [hσ]; exact h0), hs_t hk (by omega)]
  have M2 : fX11_rides σ (nI r) = some (rdN g r) := by rw [M_rides (nb := nb) (by omega) (by rw [hσ]; exact hrd r hr) hb16, hσ]
  have M1 : ∃ n', fX11_rent σ (nI r) (nI k) = fX11_rent_24 (nI r) (nI k) (n' + 1) σ (ob (-4) (bs g (nI k) nb)) (nI nb) := by
    rw [fX11_rent, Mr, bd_s, if_neg ne10, Mk, bd_s, if_neg ne10]
    obtain ⟨n', hn⟩ := M_best (σ := σ) (nb := nb) (r := nI r) (p2 := nI k) (by rw [hσ]; exact h1) hb16 fuel 0 (by omega) (by unfold fuel; omega)
    rw [hσ] at hn
    exact ⟨n', hn⟩
  obtain ⟨n', hn⟩ := M1
  have hb2 := bs_lt nb b hb
  rw [hn, hb, show ob (-4) (some b) = nI b from rfl, fX11_rent_24, ct1, hσ, h1, if_pos (nI_le (Nat.le_refl _) (by omega)), M2, bd_s, if_pos c1, if_pos (nI_pos' (by omega))]
  rw [hc1, bd_s, M_puts (by omega), bd_s]
  simp (disch := omega) only [bd_s, bn_s, gi_nI, cl_nI, sU_s, sU_n, sU_sU, nI_1, nI_pred, ixR2, ixR3, ct4, hc2, hσ, h4, M_hasPass (show r < 8 by omega), hu]
  rw [if_pos (nI_le c (by omega)), bd_s, if_pos rfl]
  unfold fX11_rent_193
  simp (disch := omega) only [bd_s, bn_s, gi_nI, cl_nI, sU_s, sU_n, sU_sU, nI_1, nI_pred, ixR5, ct4, hc2, hσ, h4, M_hasPass (show r < 8 by omega), hu]
  rw [if_pos (nI_le c (by omega)), bd_s, if_pos rfl]
  unfold fX11_rent_220
  simp (disch := omega) only [bd_s, bn_s, gi_nI, cl_nI, sU_s, sU_n, sU_sU, nI_1, nI_pred, ixR4, ixR6, ixS2, ct5, hc2, hσ]
  try rfl
set_option maxHeartbeats 4000000 in
theorem E_rent_b (h : Rel x σ) (hσ : σ 0 = g) (hI : IG g ns nb nr nv) {r k b u tm : Nat} (hr : r < nr) (hk : k < ns) (c1 : rdN g r = 0) (hb : bs g (nI k) nb = some b) (hu : g (128 + 9 * r + 1) = nI u) (hu2 : u ≤ 20000) (h4 : g 4 = nI tm) (htm : tm ≤ 9000) (c : ¬ u ≤ tm) : lStp σ (fX10_rent x (nI r) (nI k)) (nI b) (sU (sU (sU (sU (sU (sU (sU (sU g (32 + 6 * b) 1) (32 + 6 * b + 1) (nI r)) (128 + 9 * r + 2) (nI b)) (128 + 9 * r + 3) (nI tm)) (128 + 9 * r + 5) 1) (128 + 9 * r + 4) (g 5)) (128 + 9 * r + 6) 0) (8 + 4 * k + 2) (g (8 + 4 * k + 2) + 1)) := by
  obtain ⟨⟨h0, h1, h2, h3, hs6, hb16, hr8, hv2⟩, ⟨tm', h4', ht⟩, ⟨⟨t5', h5', ht5⟩, ⟨t6', h6', ht6, ht6b⟩, ⟨t7', h7', ht7⟩⟩, hpl, hdk, hbc, hrd, hvn, hzS, hzB, hzR, hzV⟩ := id hI
  refine ls_o h (L_rent h _ _) (fun σc hC => ?_)
  obtain ⟨hc1, hc2⟩ := hC
  have Mr : fX11_isRider σ (nI r) = some 1 := by rw [M_isRider (by rw [hσ]; exact h2), hs_t hr (by omega)]
  have Mk : fX11_isStation σ (nI k) = some 1 := by rw [M_isStation (by rw [hσ]; exact h0), hs_t hk (by omega)]
  have M2 : fX11_rides σ (nI r) = some (rdN g r) := by rw [M_rides (nb := nb) (by omega) (by rw [hσ]; exact hrd r hr) hb16, hσ]
  have M1 : ∃ n', fX11_rent σ (nI r) (nI k) = fX11_rent_24 (nI r) (nI k) (n' + 1) σ (ob (-4) (bs g (nI k) nb)) (nI nb) := by
    rw [fX11_rent, Mr, bd_s, if_neg ne10, Mk, bd_s, if_neg ne10]
    obtain ⟨n', hn⟩ := M_best (σ := σ) (nb := nb) (r := nI r) (p2 := nI k) (by rw [hσ]; exact h1) hb16 fuel 0 (by omega) (by unfold fuel; omega)
    rw [hσ] at hn
    exact ⟨n', hn⟩
  obtain ⟨n', hn⟩ := M1
  have hb2 := bs_lt nb b hb
  rw [hn, hb, show ob (-4) (some b) = nI b from rfl, fX11_rent_24, ct1, hσ, h1, if_pos (nI_le (Nat.le_refl _) (by omega)), M2, bd_s, if_pos c1, if_pos (nI_pos' (by omega))]
  rw [hc1, bd_s, M_puts (by omega), bd_s]
  simp (disch := omega) only [bd_s, bn_s, gi_nI, cl_nI, sU_s, sU_n, sU_sU, nI_1, nI_pred, ixR2, ixR3, ct4, hc2, hσ, h4, M_hasPass (show r < 8 by omega), hu]
  rw [if_neg (nI_ge (by omega) (by omega)), bd_s, if_neg ne10]
  unfold fX11_rent_193
  simp (disch := omega) only [bd_s, bn_s, gi_nI, cl_nI, sU_s, sU_n, sU_sU, nI_1, nI_pred, ixR5, ct4, hc2, hσ, h4, M_hasPass (show r < 8 by omega), hu]
  rw [if_neg (nI_ge (by omega) (by omega)), bd_s, if_neg ne10]
  unfold fX11_rent_220
  simp (disch := omega) only [bd_s, bn_s, gi_nI, cl_nI, sU_s, sU_n, sU_sU, nI_1, nI_pred, ixR4, ixR6, ixS2, ct5, hc2, hσ]
  try rfl
theorem E_back_f (h : Rel x σ) (hσ : σ 0 = g) (hI : IG g ns nb nr nv) {r k : Nat} (hr : r < nr) (hk : k < ns) (hbad : rdN g r = 0 ∨ fr g nb k = 0) : lStp σ (fX10_back x (nI r) (nI k)) (-2) (σ 0) := by
  obtain ⟨⟨h0, h1, h2, h3, hs6, hb16, hr8, hv2⟩, ⟨tm', h4', ht⟩, ⟨⟨t5', h5', ht5⟩, ⟨t6', h6', ht6, ht6b⟩, ⟨t7', h7', ht7⟩⟩, hpl, hdk, hbc, hrd, hvn, hzS, hzB, hzR, hzV⟩ := id hI
  refine ls_e (L_back h _ _) ?_
  have Mr : fX11_isRider σ (nI r) = some 1 := by rw [M_isRider (by rw [hσ]; exact h2), hs_t hr (by omega)]
  have Mk : fX11_isStation σ (nI k) = some 1 := by rw [M_isStation (by rw [hσ]; exact h0), hs_t hk (by omega)]
  have M2 : fX11_rides σ (nI r) = some (rdN g r) := by rw [M_rides (nb := nb) (by omega) (by rw [hσ]; exact hrd r hr) hb16, hσ]
  have Mf : fX11_isFree σ (nI k) = some (fr g nb k) := by rw [M_free (ns := ns) (nb := nb) (nr := nr) (nv := nv) (by rw [hσ]; exact hI) hk, hσ]
  rw [fX11_back, Mr, bd_s, if_neg ne10, Mk, bd_s, if_neg ne10, M2, bd_s]
  by_cases c1 : rdN g r = 0
  · rw [if_pos c1]
  · rw [if_neg c1, Mf, bd_s, if_pos (hbad.resolve_left c1)]
set_option maxHeartbeats 4000000 in
theorem E_back (h : Rel x σ) (hσ : σ 0 = g) (hI : IG g ns nb nr nv) {r k b tm F : Nat} (hr : r < nr) (hk : k < ns) (c1 : ¬ rdN g r = 0) (c2 : ¬ fr g nb k = 0) (hb : b < nb) (eb : g (128 + 9 * r + 2) = nI b) (h4 : g 4 = nI tm) (F2 : ∀ σ : T2, σ 0 = g → fX11_fee σ (nI r) = some (nI F)) : lStp σ (fX10_back x (nI r) (nI k)) (nI F) (sU (sU (sU (sU (sU (sU (sU (sU g (32 + 6 * b) 0) (32 + 6 * b + 1) (nI k)) (32 + 6 * b + 2) (g (32 + 6 * b + 2) + (nI tm - g (128 + 9 * r + 3)))) (32 + 6 * b + 4) (g (32 + 6 * b + 4) + 1)) (128 + 9 * r + 2) (-4)) (128 + 9 * r) (g (128 + 9 * r) + nI F)) (128 + 9 * r + 7) (g (128 + 9 * r + 7) + 1)) (8 + 4 * k + 3) (g (8 + 4 * k + 3) + 1)) := by
  obtain ⟨⟨h0, h1, h2, h3, hs6, hb16, hr8, hv2⟩, ⟨tm', h4', ht⟩, ⟨⟨t5', h5', ht5⟩, ⟨t6', h6', ht6, ht6b⟩, ⟨t7', h7', ht7⟩⟩, hpl, hdk, hbc, hrd, hvn, hzS, hzB, hzR, hzV⟩ := id hI
  refine ls_o h (L_back h _ _) (fun σc hC => ?_)
  obtain ⟨hc1, hc2⟩ := hC
  have Mr : fX11_isRider σ (nI r) = some 1 := by rw [M_isRider (by rw [hσ]; exact h2), hs_t hr (by omega)]
  have Mk : fX11_isStation σ (nI k) = some 1 := by rw [M_isStation (by rw [hσ]; exact h0), hs_t hk (by omega)]
  have M2 : fX11_rides σ (nI r) = some (rdN g r) := by rw [M_rides (nb := nb) (by omega) (by rw [hσ]; exact hrd r hr) hb16, hσ]
  have Mf : fX11_isFree σ (nI k) = some (fr g nb k) := by rw [M_free (ns := ns) (nb := nb) (nr := nr) (nv := nv) (by rw [hσ]; exact hI) hk, hσ]
  rw [fX11_back, Mr, bd_s, if_neg ne10, Mk, bd_s, if_neg ne10, M2, bd_s, if_neg c1, Mf, bd_s, if_neg c2, hc1, bd_s, F2 σc (hc2.trans hσ), bd_s, ixR2, gi_nI (by omega) (by decide), cl_nI (by omega), hc2, hσ, eb, bn_s, M_puts (by omega), bd_s]
  simp (disch := omega) only [bd_s, bn_s, gi_nI, cl_nI, sU_s, sU_n, sU_sU, nI_1, nI_pred, ixR0, ixR2, ixR3, ixR7, ixB2, ixB4, ixS3, ct4, hc2, hσ, h4]
theorem E_full_f (h : Rel x σ) (hσ : σ 0 = g) (hI : IG g ns nb nr nv) {r k m : Nat} (hr : r < nr) (hk : k < ns) (hm : g (128 + 9 * r + 6) = nI m) (hbad : rdN g r = 0 ∨ ¬ fr g nb k = 0 ∨ (nI m >>> (nI k &&& 31)) &&& 1 = 1) : lStp σ (fX10_full x (nI r) (nI k)) (-2) (σ 0) := by
  obtain ⟨⟨h0, h1, h2, h3, hs6, hb16, hr8, hv2⟩, ⟨tm', h4', ht⟩, ⟨⟨t5', h5', ht5⟩, ⟨t6', h6', ht6, ht6b⟩, ⟨t7', h7', ht7⟩⟩, hpl, hdk, hbc, hrd, hvn, hzS, hzB, hzR, hzV⟩ := id hI
  refine ls_e (L_full h _ _) ?_
  have Mr : fX11_isRider σ (nI r) = some 1 := by rw [M_isRider (by rw [hσ]; exact h2), hs_t hr (by omega)]
  have Mk : fX11_isStation σ (nI k) = some 1 := by rw [M_isStation (by rw [hσ]; exact h0), hs_t hk (by omega)]
  have M2 : fX11_rides σ (nI r) = some (rdN g r) := by rw [M_rides (nb := nb) (by omega) (by rw [hσ]; exact hrd r hr) hb16, hσ]
  have Mf : fX11_isFree σ (nI k) = some (fr g nb k) := by rw [M_free (ns := ns) (nb := nb) (nr := nr) (nv := nv) (by rw [hσ]; exact hI) hk, hσ]
  rw [fX11_full, Mr, bd_s, if_neg ne10, Mk, bd_s, if_neg ne10, M2, bd_s]
  by_cases c1 : rdN g r = 0
  · rw [if_pos c1]
  · rw [if_neg c1, Mf, bd_s]
    by_cases c2 : fr g nb k = 0
    · rw [if_pos c2, ixR6, gi_nI (by omega) (by decide), cl_nI (by omega), hσ, hm, if_pos ((hbad.resolve_left c1).resolve_left (fun q => q c2))]
    · rw [if_neg c2]
set_option maxHeartbeats 4000000 in
theorem E_full (h : Rel x σ) (hσ : σ 0 = g) (hI : IG g ns nb nr nv) {r k m f : Nat} (hr : r < nr) (hk : k < ns) (c1 : ¬ rdN g r = 0) (c2 : fr g nb k = 0) (hm : g (128 + 9 * r + 6) = nI m) (c3 : ¬ (nI m >>> (nI k &&& 31)) &&& 1 = 1) (w1 : nI m ||| ((1 : Int32) <<< (nI k &&& 31)) = nI (m + 2 ^ k)) (hf : g (128 + 9 * r + 4) = nI f) : lStp σ (fX10_full x (nI r) (nI k)) (nI (f + 15)) (sU (sU g (128 + 9 * r + 6) (nI (m + 2 ^ k))) (128 + 9 * r + 4) (nI (f + 15))) := by
  obtain ⟨⟨h0, h1, h2, h3, hs6, hb16, hr8, hv2⟩, ⟨tm', h4', ht⟩, ⟨⟨t5', h5', ht5⟩, ⟨t6', h6', ht6, ht6b⟩, ⟨t7', h7', ht7⟩⟩, hpl, hdk, hbc, hrd, hvn, hzS, hzB, hzR, hzV⟩ := id hI
  refine ls_o h (L_full h _ _) (fun σc hC => ?_)
  obtain ⟨hc1, hc2⟩ := hC
  have Mr : fX11_isRider σ (nI r) = some 1 := by rw [M_isRider (by rw [hσ]; exact h2), hs_t hr (by omega)]
  have Mk : fX11_isStation σ (nI k) = some 1 := by rw [M_isStation (by rw [hσ]; exact h0), hs_t hk (by omega)]
  have M2 : fX11_rides σ (nI r) = some (rdN g r) := by rw [M_rides (nb := nb) (by omega) (by rw [hσ]; exact hrd r hr) hb16, hσ]
  have Mf : fX11_isFree σ (nI k) = some (fr g nb k) := by rw [M_free (ns := ns) (nb := nb) (nr := nr) (nv := nv) (by rw [hσ]; exact hI) hk, hσ]
  have efr : (nI f : Int32) + 15 = nI (f + 15) := nI_add f 15
  rw [fX11_full, Mr, bd_s, if_neg ne10, Mk, bd_s, if_neg ne10, M2, bd_s, if_neg c1, Mf, bd_s, if_pos c2, ixR6, gi_nI (by omega) (by decide), cl_nI (by omega), hσ, hm, if_neg c3, hc1, bd_s]
  simp (disch := omega) only [bd_s, bn_s, gi_nI, cl_nI, sU_s, sU_n, sU_sU, nI_1, nI_pred, ixR4, ixR6, hc2, hσ, hm, w1, hf, efr]
theorem E_take_f (h : Rel x σ) (hσ : σ 0 = g) (hI : IG g ns nb nr nv) {v b j m : Nat} (hv : v < nv) (hb : b < nb) (ej : g (200 + 3 * v) = nI j) (hj : j < ns) (hm : g (200 + 3 * v + 1) = nI m) (hm2 : m ≤ 6) (hbad : ¬ uw g v = 0 ∨ cw g 2 (nI v) nb = m ∨ atN g b 0 (nI j) = 0) : lStp σ (fX10_take x (nI v) (nI b)) (-2) (σ 0) := by
  obtain ⟨⟨h0, h1, h2, h3, hs6, hb16, hr8, hv2⟩, ⟨tm', h4', ht⟩, ⟨⟨t5', h5', ht5⟩, ⟨t6', h6', ht6, ht6b⟩, ⟨t7', h7', ht7⟩⟩, hpl, hdk, hbc, hrd, hvn, hzS, hzB, hzR, hzV⟩ := id hI
  refine ls_e (L_take h _ _) ?_
  have Mv : fX11_isVan σ (nI v) = some 1 := by rw [M_isVan (by rw [hσ]; exact h3), hs_t hv (by omega)]
  have Mb : fX11_isBicycle σ (nI b) = some 1 := by rw [M_isBicycle (by rw [hσ]; exact h1), hs_t hb (by omega)]
  have Mu : fX11_isUnderWay σ (nI v) = some (uw g v) := by rw [M_under (by omega), hσ]
  have Mc : fX11_carried σ (nI v) = some (nI (cw g 2 (nI v) nb)) := by rw [M_carried (by rw [hσ]; exact h1) hb16, hσ]
  have M3 : fX11_isAt σ (nI b) 0 (nI j) = some (atN g b 0 (nI j)) := by rw [M_isAt (by omega), hσ]
  have hcb := cw_le g 2 (nI v) nb
  rw [fX11_take, Mv, bd_s, if_neg ne10, Mb, bd_s, if_neg ne10, Mu, bd_s, Mc, bd_s, M_ofV1 (by omega), bd_s, M_ofV0 (by omega), bd_s, hσ, hm, ej, M3, bd_s]
  by_cases c1 : uw g v = 0
  · rw [if_pos c1]
    by_cases c2 : cw g 2 (nI v) nb = m
    · rw [if_pos (by rw [c2])]
    · rw [if_neg (fun e => c2 ((nI_eq (by omega) (by omega)).mp e)), if_pos ((hbad.resolve_left (fun q => q c1)).resolve_left c2)]
  · rw [if_neg c1]
set_option maxHeartbeats 4000000 in
theorem E_take (h : Rel x σ) (hσ : σ 0 = g) (hI : IG g ns nb nr nv) {v b j m : Nat} (hv : v < nv) (hb : b < nb) (ej : g (200 + 3 * v) = nI j) (hj : j < ns) (hm : g (200 + 3 * v + 1) = nI m) (hm2 : m ≤ 6) (c1 : uw g v = 0) (c2 : ¬ cw g 2 (nI v) nb = m) (c3 : ¬ atN g b 0 (nI j) = 0) : lStp σ (fX10_take x (nI v) (nI b)) (nI (cw (sU (sU g (32 + 6 * b) 2) (32 + 6 * b + 1) (nI v)) 2 (nI v) nb)) (sU (sU g (32 + 6 * b) 2) (32 + 6 * b + 1) (nI v)) := by
  obtain ⟨⟨h0, h1, h2, h3, hs6, hb16, hr8, hv2⟩, ⟨tm', h4', ht⟩, ⟨⟨t5', h5', ht5⟩, ⟨t6', h6', ht6, ht6b⟩, ⟨t7', h7', ht7⟩⟩, hpl, hdk, hbc, hrd, hvn, hzS, hzB, hzR, hzV⟩ := id hI
  refine ls_o h (L_take h _ _) (fun σc hC => ?_)
  obtain ⟨hc1, hc2⟩ := hC
  have Mv : fX11_isVan σ (nI v) = some 1 := by rw [M_isVan (by rw [hσ]; exact h3), hs_t hv (by omega)]
  have Mb : fX11_isBicycle σ (nI b) = some 1 := by rw [M_isBicycle (by rw [hσ]; exact h1), hs_t hb (by omega)]
  have Mu : fX11_isUnderWay σ (nI v) = some (uw g v) := by rw [M_under (by omega), hσ]
  have Mc : fX11_carried σ (nI v) = some (nI (cw g 2 (nI v) nb)) := by rw [M_carried (by rw [hσ]; exact h1) hb16, hσ]
  have M3 : fX11_isAt σ (nI b) 0 (nI j) = some (atN g b 0 (nI j)) := by rw [M_isAt (by omega), hσ]
  have hcb := cw_le g 2 (nI v) nb
  rw [fX11_take, Mv, bd_s, if_neg ne10, Mb, bd_s, if_neg ne10, Mu, bd_s, Mc, bd_s, M_ofV1 (by omega), bd_s, M_ofV0 (by omega), bd_s, hσ, hm, ej, M3, bd_s]
  rw [if_pos c1, if_neg (fun e => c2 ((nI_eq (by omega) (by omega)).mp e)), if_neg c3, hc1, bd_s, M_puts (by omega), bd_s, M_carried (nb := nb) (by rw [sU_s, hc2, hσ]; simp (disch := omega) only [sU_n, sU_s]; exact h1) hb16, bd_s, sU_s, hc2, hσ]
theorem E_put_f (h : Rel x σ) (hσ : σ 0 = g) (hI : IG g ns nb nr nv) {v b j : Nat} (hv : v < nv) (hb : b < nb) (ej : g (200 + 3 * v) = nI j) (hj : j < ns) (hbad : ¬ uw g v = 0 ∨ atN g b 2 (nI v) = 0 ∨ fr g nb j = 0) : lStp σ (fX10_put x (nI v) (nI b)) (-2) (σ 0) := by
  obtain ⟨⟨h0, h1, h2, h3, hs6, hb16, hr8, hv2⟩, ⟨tm', h4', ht⟩, ⟨⟨t5', h5', ht5⟩, ⟨t6', h6', ht6, ht6b⟩, ⟨t7', h7', ht7⟩⟩, hpl, hdk, hbc, hrd, hvn, hzS, hzB, hzR, hzV⟩ := id hI
  refine ls_e (L_put h _ _) ?_
  have Mv : fX11_isVan σ (nI v) = some 1 := by rw [M_isVan (by rw [hσ]; exact h3), hs_t hv (by omega)]
  have Mb : fX11_isBicycle σ (nI b) = some 1 := by rw [M_isBicycle (by rw [hσ]; exact h1), hs_t hb (by omega)]
  have Mu : fX11_isUnderWay σ (nI v) = some (uw g v) := by rw [M_under (by omega), hσ]
  have M3 : fX11_isAt σ (nI b) 2 (nI v) = some (atN g b 2 (nI v)) := by rw [M_isAt (by omega), hσ]
  have Mf : fX11_isFree σ (nI j) = some (fr g nb j) := by rw [M_free (ns := ns) (nb := nb) (nr := nr) (nv := nv) (by rw [hσ]; exact hI) hj, hσ]
  rw [fX11_put, Mv, bd_s, if_neg ne10, Mb, bd_s, if_neg ne10, Mu, bd_s, M3, bd_s, M_ofV0 (by omega), bd_s, hσ, ej, Mf, bd_s]
  by_cases c1 : uw g v = 0
  · rw [if_pos c1]
    by_cases c2 : atN g b 2 (nI v) = 0
    · rw [if_pos c2]
    · rw [if_neg c2, if_pos ((hbad.resolve_left (fun q => q c1)).resolve_left c2)]
  · rw [if_neg c1]
set_option maxHeartbeats 4000000 in
theorem E_put (h : Rel x σ) (hσ : σ 0 = g) (hI : IG g ns nb nr nv) {v b j : Nat} (hv : v < nv) (hb : b < nb) (ej : g (200 + 3 * v) = nI j) (hj : j < ns) (c1 : uw g v = 0) (c2 : ¬ atN g b 2 (nI v) = 0) (c3 : ¬ fr g nb j = 0) : lStp σ (fX10_put x (nI v) (nI b)) (nI (cw (sU (sU g (32 + 6 * b) 0) (32 + 6 * b + 1) (nI j)) 2 (nI v) nb)) (sU (sU g (32 + 6 * b) 0) (32 + 6 * b + 1) (nI j)) := by
  obtain ⟨⟨h0, h1, h2, h3, hs6, hb16, hr8, hv2⟩, ⟨tm', h4', ht⟩, ⟨⟨t5', h5', ht5⟩, ⟨t6', h6', ht6, ht6b⟩, ⟨t7', h7', ht7⟩⟩, hpl, hdk, hbc, hrd, hvn, hzS, hzB, hzR, hzV⟩ := id hI
  refine ls_o h (L_put h _ _) (fun σc hC => ?_)
  obtain ⟨hc1, hc2⟩ := hC
  have Mv : fX11_isVan σ (nI v) = some 1 := by rw [M_isVan (by rw [hσ]; exact h3), hs_t hv (by omega)]
  have Mb : fX11_isBicycle σ (nI b) = some 1 := by rw [M_isBicycle (by rw [hσ]; exact h1), hs_t hb (by omega)]
  have Mu : fX11_isUnderWay σ (nI v) = some (uw g v) := by rw [M_under (by omega), hσ]
  have M3 : fX11_isAt σ (nI b) 2 (nI v) = some (atN g b 2 (nI v)) := by rw [M_isAt (by omega), hσ]
  have Mf : fX11_isFree σ (nI j) = some (fr g nb j) := by rw [M_free (ns := ns) (nb := nb) (nr := nr) (nv := nv) (by rw [hσ]; exact hI) hj, hσ]
  rw [fX11_put, Mv, bd_s, if_neg ne10, Mb, bd_s, if_neg ne10, Mu, bd_s, M3, bd_s, M_ofV0 (by omega), bd_s, hσ, ej, Mf, bd_s]
  rw [if_pos c1, if_neg c2, if_neg c3, hc1, bd_s, M_ofV0 (by omega), bd_s, hc2, hσ, ej, M_puts (by omega), bd_s, M_carried (nb := nb) (by rw [sU_s, hc2, hσ]; simp (disch := omega) only [sU_n, sU_s]; exact h1) hb16, bd_s, sU_s, hc2, hσ]
theorem E_mend_f (h : Rel x σ) (hσ : σ 0 = g) (hI : IG g ns nb nr nv) {v b j : Nat} (hv : v < nv) (hb : b < nb) (ej : g (200 + 3 * v) = nI j) (hj : j < ns) (hbad : ¬ uw g v = 0 ∨ ¬ j = 0 ∨ atN g b 2 (nI v) = 0) : lStp σ (fX10_mend x (nI v) (nI b)) (-2) (σ 0) := by
  obtain ⟨⟨h0, h1, h2, h3, hs6, hb16, hr8, hv2⟩, ⟨tm', h4', ht⟩, ⟨⟨t5', h5', ht5⟩, ⟨t6', h6', ht6, ht6b⟩, ⟨t7', h7', ht7⟩⟩, hpl, hdk, hbc, hrd, hvn, hzS, hzB, hzR, hzV⟩ := id hI
  refine ls_e (L_mend h _ _) ?_
  have Mv : fX11_isVan σ (nI v) = some 1 := by rw [M_isVan (by rw [hσ]; exact h3), hs_t hv (by omega)]
  have Mb : fX11_isBicycle σ (nI b) = some 1 := by rw [M_isBicycle (by rw [hσ]; exact h1), hs_t hb (by omega)]
  have Mu : fX11_isUnderWay σ (nI v) = some (uw g v) := by rw [M_under (by omega), hσ]
  have M3 : fX11_isAt σ (nI b) 2 (nI v) = some (atN g b 2 (nI v)) := by rw [M_isAt (by omega), hσ]
  rw [fX11_mend, Mv, bd_s, if_neg ne10, Mb, bd_s, if_neg ne10, Mu, bd_s, M_ofV0 (by omega), bd_s, hσ, ej, M3, bd_s]
  by_cases c1 : uw g v = 0
  · rw [if_pos c1]
    by_cases c2 : j = 0
    · rw [if_pos (by rw [c2]; rfl), if_pos ((hbad.resolve_left (fun q => q c1)).resolve_left (fun q => q c2))]
    · rw [if_neg (nI_ne0 (by omega) (by omega))]
  · rw [if_neg c1]
set_option maxHeartbeats 4000000 in
theorem E_mend (h : Rel x σ) (hσ : σ 0 = g) (hI : IG g ns nb nr nv) {v b j : Nat} (hv : v < nv) (hb : b < nb) (ej : g (200 + 3 * v) = nI j) (hj : j < ns) {tm t6 : Nat} (h4 : g 4 = nI tm) (h6 : g 6 = nI t6) (c1 : uw g v = 0) (c2 : j = 0) (c3 : ¬ atN g b 2 (nI v) = 0) : lStp σ (fX10_mend x (nI v) (nI b)) (nI (tm + t6)) (sU (sU (sU g (32 + 6 * b) 3) (32 + 6 * b + 1) (-4)) (32 + 6 * b + 5) (nI (tm + t6))) := by
  obtain ⟨⟨h0, h1, h2, h3, hs6, hb16, hr8, hv2⟩, ⟨tm', h4', ht⟩, ⟨⟨t5', h5', ht5⟩, ⟨t6', h6', ht6, ht6b⟩, ⟨t7', h7', ht7⟩⟩, hpl, hdk, hbc, hrd, hvn, hzS, hzB, hzR, hzV⟩ := id hI
  refine ls_o h (L_mend h _ _) (fun σc hC => ?_)
  obtain ⟨hc1, hc2⟩ := hC
  have Mv : fX11_isVan σ (nI v) = some 1 := by rw [M_isVan (by rw [hσ]; exact h3), hs_t hv (by omega)]
  have Mb : fX11_isBicycle σ (nI b) = some 1 := by rw [M_isBicycle (by rw [hσ]; exact h1), hs_t hb (by omega)]
  have Mu : fX11_isUnderWay σ (nI v) = some (uw g v) := by rw [M_under (by omega), hσ]
  have M3 : fX11_isAt σ (nI b) 2 (nI v) = some (atN g b 2 (nI v)) := by rw [M_isAt (by omega), hσ]
  have e46 : nI tm + nI t6 = nI (tm + t6) := nI_add _ _
  rw [fX11_mend, Mv, bd_s, if_neg ne10, Mb, bd_s, if_neg ne10, Mu, bd_s, M_ofV0 (by omega), bd_s, hσ, ej, M3, bd_s]
  rw [if_pos c1, if_pos (by rw [c2]; rfl), if_neg c3, hc1, bd_s, M_puts (by omega), bd_s]
  simp (disch := omega) only [bd_s, bn_s, gi_nI, cl_nI, sU_s, sU_n, sU_sU, nI_1, nI_pred, ixB5, hc2, hσ, ct4, h4, ct6, h6, e46, M_ofB5]
theorem E_go_f (h : Rel x σ) (hσ : σ 0 = g) (hI : IG g ns nb nr nv) {v k j : Nat} (hv : v < nv) (hk : k < ns) (ej : g (200 + 3 * v) = nI j) (hj : j < ns) (hbad : ¬ uw g v = 0 ∨ j = k) : lStp σ (fX10_go x (nI v) (nI k)) (-2) (σ 0) := by
  obtain ⟨⟨h0, h1, h2, h3, hs6, hb16, hr8, hv2⟩, ⟨tm', h4', ht⟩, ⟨⟨t5', h5', ht5⟩, ⟨t6', h6', ht6, ht6b⟩, ⟨t7', h7', ht7⟩⟩, hpl, hdk, hbc, hrd, hvn, hzS, hzB, hzR, hzV⟩ := id hI
  refine ls_e (L_go h _ _) ?_
  have Mv : fX11_isVan σ (nI v) = some 1 := by rw [M_isVan (by rw [hσ]; exact h3), hs_t hv (by omega)]
  have Mk : fX11_isStation σ (nI k) = some 1 := by rw [M_isStation (by rw [hσ]; exact h0), hs_t hk (by omega)]
  have Mu : fX11_isUnderWay σ (nI v) = some (uw g v) := by rw [M_under (by omega), hσ]
  rw [fX11_go, Mv, bd_s, if_neg ne10, Mk, bd_s, if_neg ne10, Mu, bd_s]
  by_cases c1 : uw g v = 0
  · rw [if_pos c1, M_ofV0 (by omega), bd_s, hσ, ej, if_pos (by rw [hbad.resolve_left (fun q => q c1)])]
  · rw [if_neg c1]
set_option maxHeartbeats 4000000 in
theorem E_go (h : Rel x σ) (hσ : σ 0 = g) (hI : IG g ns nb nr nv) {v k j : Nat} (hv : v < nv) (hk : k < ns) (ej : g (200 + 3 * v) = nI j) (hj : j < ns) {x0 y0 w tm : Nat} (h4 : g 4 = nI tm) (hx : g (8 + 4 * j) = nI x0) (hy : g (8 + 4 * k) = nI y0) (hx2 : x0 ≤ 99) (hy2 : y0 ≤ 99) (hw : w = if y0 ≤ x0 then x0 - y0 else y0 - x0) (c1 : uw g v = 0) (c2 : ¬ j = k) : lStp σ (fX10_go x (nI v) (nI k)) (nI (tm + w / 2 + 1)) (sU (sU g (200 + 3 * v + 2) (nI (tm + w / 2 + 1))) (200 + 3 * v) (nI k)) := by
  obtain ⟨⟨h0, h1, h2, h3, hs6, hb16, hr8, hv2⟩, ⟨tm', h4', ht⟩, ⟨⟨t5', h5', ht5⟩, ⟨t6', h6', ht6, ht6b⟩, ⟨t7', h7', ht7⟩⟩, hpl, hdk, hbc, hrd, hvn, hzS, hzB, hzR, hzV⟩ := id hI
  refine ls_o h (L_go h _ _) (fun σc hC => ?_)
  obtain ⟨hc1, hc2⟩ := hC
  have Mv : fX11_isVan σ (nI v) = some 1 := by rw [M_isVan (by rw [hσ]; exact h3), hs_t hv (by omega)]
  have Mk : fX11_isStation σ (nI k) = some 1 := by rw [M_isStation (by rw [hσ]; exact h0), hs_t hk (by omega)]
  have Mu : fX11_isUnderWay σ (nI v) = some (uw g v) := by rw [M_under (by omega), hσ]
  have c3 : ¬ nI j = nI k := fun e => c2 ((nI_eq (by omega) (by omega)).mp e)
  have hw2 : w ≤ 99 := by rw [hw]; split <;> omega
  have ew : nI tm + nI w / 2 + 1 = nI (tm + w / 2 + 1) := by
    rw [show (2 : Int32) = nI 2 from rfl, pk_div (by omega) (by decide) (by decide), nI_add, nI_1]
  rw [fX11_go, Mv, bd_s, if_neg ne10, Mk, bd_s, if_neg ne10, Mu, bd_s, if_pos c1, M_ofV0 (by omega), bd_s, hσ, ej, if_neg c3, hc1, bd_s, M_ofV0 (by omega), bd_s, hc2, hσ, ej, M_way (by omega) (by omega) (by rw [hc2, hσ]; exact hx) (by rw [hc2, hσ]; exact hy) hx2 hy2, bd_s, ← hw, ct4, h4, ew]
  simp (disch := omega) only [bd_s, bn_s, gi_nI, cl_nI, sU_s, sU_n, sU_sU, nI_1, nI_pred, ixV0, ixV2, M_ofV2]
theorem E_report_f (h : Rel x σ) (hσ : σ 0 = g) (hI : IG g ns nb nr nv) {b : Nat} (hb : b < nb) (hbad : (1 : Int32) < g (32 + 6 * b) ∨ g (32 + 6 * b + 3) = 1) : lStp σ (fX10_report x (nI b)) (-2) (σ 0) := by
  obtain ⟨⟨h0, h1, h2, h3, hs6, hb16, hr8, hv2⟩, ⟨tm', h4', ht⟩, ⟨⟨t5', h5', ht5⟩, ⟨t6', h6', ht6, ht6b⟩, ⟨t7', h7', ht7⟩⟩, hpl, hdk, hbc, hrd, hvn, hzS, hzB, hzR, hzV⟩ := id hI
  refine ls_e (L_report h _) ?_
  have Mb : fX11_isBicycle σ (nI b) = some 1 := by rw [M_isBicycle (by rw [hσ]; exact h1), hs_t hb (by omega)]
  have eS : fX11_report σ (nI b) = (if (1 : Int32) < g (32 + 6 * b) then (some ((-2), σ)) else (if g (32 + 6 * b + 3) = 1 then (some ((-2), σ)) else (bd (fX11_changes σ) (fun q34 => bd (fX11_faulty (sU q34 0 (sU (q34 0) (32 + 6 * b + 3) 1))) (fun q53 => some (q53, sU q34 0 (sU (q34 0) (32 + 6 * b + 3) 1))))))) := by
    rw [fX11_report, Mb, bd_s, if_neg ne10, M_ofB0 (by omega), bd_s, M_ofB3 (by omega), bd_s, hσ]
    simp (disch := omega) only [bd_s, bn_s, gi_nI, cl_nI, sU_s, sU_n, sU_sU, nI_1, nI_pred, ixB3]
  rw [eS]
  by_cases c1 : (1 : Int32) < g (32 + 6 * b)
  · rw [if_pos c1]
  · rw [if_neg c1, if_pos (hbad.resolve_left c1)]
set_option maxHeartbeats 4000000 in
theorem E_report (h : Rel x σ) (hσ : σ 0 = g) (hI : IG g ns nb nr nv) {b : Nat} (hb : b < nb) (c1 : ¬ (1 : Int32) < g (32 + 6 * b)) (c2 : ¬ g (32 + 6 * b + 3) = 1) : lStp σ (fX10_report x (nI b)) (cf (sU g (32 + 6 * b + 3) 1) nb) (sU g (32 + 6 * b + 3) 1) := by
  obtain ⟨⟨h0, h1, h2, h3, hs6, hb16, hr8, hv2⟩, ⟨tm', h4', ht⟩, ⟨⟨t5', h5', ht5⟩, ⟨t6', h6', ht6, ht6b⟩, ⟨t7', h7', ht7⟩⟩, hpl, hdk, hbc, hrd, hvn, hzS, hzB, hzR, hzV⟩ := id hI
  refine ls_o h (L_report h _) (fun σc hC => ?_)
  obtain ⟨hc1, hc2⟩ := hC
  have Mb : fX11_isBicycle σ (nI b) = some 1 := by rw [M_isBicycle (by rw [hσ]; exact h1), hs_t hb (by omega)]
  have eS : fX11_report σ (nI b) = (if (1 : Int32) < g (32 + 6 * b) then (some ((-2), σ)) else (if g (32 + 6 * b + 3) = 1 then (some ((-2), σ)) else (bd (fX11_changes σ) (fun q34 => bd (fX11_faulty (sU q34 0 (sU (q34 0) (32 + 6 * b + 3) 1))) (fun q53 => some (q53, sU q34 0 (sU (q34 0) (32 + 6 * b + 3) 1))))))) := by
    rw [fX11_report, Mb, bd_s, if_neg ne10, M_ofB0 (by omega), bd_s, M_ofB3 (by omega), bd_s, hσ]
    simp (disch := omega) only [bd_s, bn_s, gi_nI, cl_nI, sU_s, sU_n, sU_sU, nI_1, nI_pred, ixB3]
  rw [eS, if_neg c1, if_neg c2, hc1, bd_s, M_faulty (nb := nb) (by rw [hc2, hσ]; simp (disch := omega) only [sU_n, sU_s]; exact h1) hb16, bd_s, sU_s, hc2, hσ]
set_option maxHeartbeats 4000000 in
theorem E_set0 (h : Rel x σ) (hσ : σ 0 = g) (hI : IG g ns nb nr nv) {a : Nat} (ha2 : a ≤ 99) : lStp σ (fX10_set x (nI 0) (nI a)) (g 5) (sU g 5 (nI a)) := by
  obtain ⟨⟨h0, h1, h2, h3, hs6, hb16, hr8, hv2⟩, ⟨tm', h4', ht⟩, ⟨⟨t5', h5', ht5⟩, ⟨t6', h6', ht6, ht6b⟩, ⟨t7', h7', ht7⟩⟩, hpl, hdk, hbc, hrd, hvn, hzS, hzB, hzR, hzV⟩ := id hI
  refine ls_o h (L_set h _ _) (fun σc hC => ?_)
  obtain ⟨hc1, hc2⟩ := hC
  have M1 : fX11_set σ (nI 0) (nI a) = fX11_set_32 (nI 0) (nI a) σ (nI a) 0 99 := by
    rw [fX11_set, M_in2 (by decide) (by decide), bd_s, if_neg ne10]
    rfl
  have i1 : fX11_in (nI a) 0 99 = some 1 := M_in2 (nI_pos (by omega)) (nI_nlt (a := 99) ha2 (by decide))
  rw [M1, fX11_set_32, i1, bd_s, if_neg ne10, hc1, bd_s, show (5 : Int32) + nI 0 = nI 5 from nI_add 5 0]
  simp (disch := omega) only [bd_s, bn_s, gi_nI, cl_nI, sU_s, sU_n, sU_sU, nI_1, nI_pred, hc2, hσ]
set_option maxHeartbeats 4000000 in
theorem E_set1 (h : Rel x σ) (hσ : σ 0 = g) (hI : IG g ns nb nr nv) {a : Nat} (ha : 1 ≤ a) (ha2 : a ≤ 999) : lStp σ (fX10_set x (nI 1) (nI a)) (g 6) (sU g 6 (nI a)) := by
  obtain ⟨⟨h0, h1, h2, h3, hs6, hb16, hr8, hv2⟩, ⟨tm', h4', ht⟩, ⟨⟨t5', h5', ht5⟩, ⟨t6', h6', ht6, ht6b⟩, ⟨t7', h7', ht7⟩⟩, hpl, hdk, hbc, hrd, hvn, hzS, hzB, hzR, hzV⟩ := id hI
  refine ls_o h (L_set h _ _) (fun σc hC => ?_)
  obtain ⟨hc1, hc2⟩ := hC
  have M1 : fX11_set σ (nI 1) (nI a) = fX11_set_32 (nI 1) (nI a) σ (nI a) 1 999 := by
    rw [fX11_set, M_in2 (by decide) (by decide), bd_s, if_neg ne10]
    rfl
  have i1 : fX11_in (nI a) 1 999 = some 1 := M_in2 (nI_nlt (b := 1) ha (by omega)) (nI_nlt (a := 999) ha2 (by decide))
  rw [M1, fX11_set_32, i1, bd_s, if_neg ne10, hc1, bd_s, show (5 : Int32) + nI 1 = nI 6 from nI_add 5 1]
  simp (disch := omega) only [bd_s, bn_s, gi_nI, cl_nI, sU_s, sU_n, sU_sU, nI_1, nI_pred, hc2, hσ]
set_option maxHeartbeats 4000000 in
theorem E_set2 (h : Rel x σ) (hσ : σ 0 = g) (hI : IG g ns nb nr nv) {a : Nat} (ha2 : a ≤ 999) : lStp σ (fX10_set x (nI 2) (nI a)) (g 7) (sU g 7 (nI a)) := by
  obtain ⟨⟨h0, h1, h2, h3, hs6, hb16, hr8, hv2⟩, ⟨tm', h4', ht⟩, ⟨⟨t5', h5', ht5⟩, ⟨t6', h6', ht6, ht6b⟩, ⟨t7', h7', ht7⟩⟩, hpl, hdk, hbc, hrd, hvn, hzS, hzB, hzR, hzV⟩ := id hI
  refine ls_o h (L_set h _ _) (fun σc hC => ?_)
  obtain ⟨hc1, hc2⟩ := hC
  have M1 : fX11_set σ (nI 2) (nI a) = fX11_set_32 (nI 2) (nI a) σ (nI a) 0 999 := by
    rw [fX11_set, M_in2 (by decide) (by decide), bd_s, if_neg ne10]
    rfl
  have i1 : fX11_in (nI a) 0 999 = some 1 := M_in2 (nI_pos (by omega)) (nI_nlt (a := 999) ha2 (by decide))
  rw [M1, fX11_set_32, i1, bd_s, if_neg ne10, hc1, bd_s, show (5 : Int32) + nI 2 = nI 7 from nI_add 5 2]
  simp (disch := omega) only [bd_s, bn_s, gi_nI, cl_nI, sU_s, sU_n, sU_sU, nI_1, nI_pred, hc2, hσ]
theorem E_pause (h : Rel x σ) (hσ : σ 0 = g) (hI : IG g ns nb nr nv) {m tm c : Nat} {g1 : T1} (hm : 1 ≤ m) (hm2 : m ≤ 200) (h4 : g 4 = nI tm) (htm : tm + m ≤ 9000) (hM : ∀ σ : T2, σ 0 = g → fX11_pause_38 (nI m) fuel σ (nI 0) (nI 0) = some (nI c, sU σ 0 g1)) : lStp σ (fX10_pause x (nI m)) (nI c) g1 := by
  obtain ⟨⟨h0, h1, h2, h3, hs6, hb16, hr8, hv2⟩, ⟨tm', h4', ht⟩, ⟨⟨t5', h5', ht5⟩, ⟨t6', h6', ht6, ht6b⟩, ⟨t7', h7', ht7⟩⟩, hpl, hdk, hbc, hrd, hvn, hzS, hzB, hzR, hzV⟩ := id hI
  refine ls_o h (L_pause h _) (fun σc hC => ?_)
  obtain ⟨hc1, hc2⟩ := hC
  have i1 : fX11_in (nI m) 1 200 = some 1 := M_in2 (nI_nlt (b := 1) hm (by omega)) (nI_nlt (a := 200) hm2 (by decide))
  have c3 : nI tm + nI m ≤ 9000 := by rw [nI_add]; exact nI_le (b := 9000) htm (by decide)
  rw [fX11_pause, i1, bd_s, if_neg ne10, ct4, hσ, h4, if_pos c3, hc1, bd_s]
  exact hM σc (hc2.trans hσ)
end E2
