/-! LAW 9: what the readers answer -/
section V9
variable {x : T5} {σ : T2} {g : T1} {ns nb nr nv k : Nat}
theorem re_b (h : Rel x σ) {p1 p2 r : Int32} (e : fX11_bicycleOf σ p1 p2 = some r) : fX10_bicycleOf x p1 p2 = some r := by
  obtain ⟨r', a, b⟩ := r_bicycleOf h p1 p2
  rw [b] at e
  exact a.trans e
theorem re_r (h : Rel x σ) {p1 p2 r : Int32} (e : fX11_riderOf σ p1 p2 = some r) : fX10_riderOf x p1 p2 = some r := by
  obtain ⟨r', a, b⟩ := r_riderOf h p1 p2
  rw [b] at e
  exact a.trans e
theorem re_v (h : Rel x σ) {p1 p2 r : Int32} (e : fX11_vanOf σ p1 p2 = some r) : fX10_vanOf x p1 p2 = some r := by
  obtain ⟨r', a, b⟩ := r_vanOf h p1 p2
  rw [b] at e
  exact a.trans e
theorem re_c (h : Rel x σ) {p1 r : Int32} (e : fX11_count σ p1 = some r) : fX10_count x p1 = some r := by
  obtain ⟨r', a, b⟩ := r_count h p1
  rw [b] at e
  exact a.trans e
theorem re_s (h : Rel x σ) {p1 p2 r : Int32} (e : fX11_stationOf σ p1 p2 = some r) : ∃ x', fX10_stationOf x p1 p2 = some (r, x') ∧ Rel x' σ := by
  obtain ⟨r', x', a, b, c⟩ := r_stationOf h p1 p2
  rw [b] at e
  exact ⟨x', by rw [a, Option.some.inj e], c⟩
theorem no_i {n m : Nat} (hm : m < 2 ^ 31) (h : n ≤ m) : ¬ inN (nI m) n := fun ⟨j, hj, e⟩ => by
  have := (nI_eq hm (by omega)).mp e
  omega
theorem VB_0 (h : Rel x σ) (hσ : σ 0 = g) (hI : IG g ns nb nr nv) (hk : k < nb) : fX10_bicycleOf x (nI k) 0 = some (g (32 + 6 * k)) := by
  obtain ⟨⟨h0, h1, h2, h3, hs6, hb16, hr8, hv2⟩, ⟨tm, h4, ht⟩, ⟨⟨t5, h5, ht5⟩, ⟨t6, h6, ht6, ht6b⟩, ⟨t7, h7, ht7⟩⟩, hpl, hdk, hbc, hrd, hvn, hzS, hzB, hzR, hzV⟩ := id hI
  exact re_b h (by rw [fX11_bicycleOf, M_isBicycle (by rw [hσ]; exact h1), hs_t hk (by omega), bd_s, if_neg ne10, M_in2 (by decide) (by decide), bd_s, if_neg ne10, M_ofB0 (by omega), bd_s, hσ])
theorem VB_1 (h : Rel x σ) (hσ : σ 0 = g) (hI : IG g ns nb nr nv) (hk : k < nb) : fX10_bicycleOf x (nI k) 1 = some (g (32 + 6 * k + 1)) := by
  obtain ⟨⟨h0, h1, h2, h3, hs6, hb16, hr8, hv2⟩, ⟨tm, h4, ht⟩, ⟨⟨t5, h5, ht5⟩, ⟨t6, h6, ht6, ht6b⟩, ⟨t7, h7, ht7⟩⟩, hpl, hdk, hbc, hrd, hvn, hzS, hzB, hzR, hzV⟩ := id hI
  exact re_b h (by rw [fX11_bicycleOf, M_isBicycle (by rw [hσ]; exact h1), hs_t hk (by omega), bd_s, if_neg ne10, M_in2 (by decide) (by decide), bd_s, if_neg ne10, M_ofB1 (by omega), bd_s, hσ])
theorem VB_2 (h : Rel x σ) (hσ : σ 0 = g) (hI : IG g ns nb nr nv) (hk : k < nb) : fX10_bicycleOf x (nI k) 2 = some (g (32 + 6 * k + 2)) := by
  obtain ⟨⟨h0, h1, h2, h3, hs6, hb16, hr8, hv2⟩, ⟨tm, h4, ht⟩, ⟨⟨t5, h5, ht5⟩, ⟨t6, h6, ht6, ht6b⟩, ⟨t7, h7, ht7⟩⟩, hpl, hdk, hbc, hrd, hvn, hzS, hzB, hzR, hzV⟩ := id hI
  exact re_b h (by rw [fX11_bicycleOf, M_isBicycle (by rw [hσ]; exact h1), hs_t hk (by omega), bd_s, if_neg ne10, M_in2 (by decide) (by decide), bd_s, if_neg ne10, M_ofB2 (by omega), bd_s, hσ])
theorem VB_3 (h : Rel x σ) (hσ : σ 0 = g) (hI : IG g ns nb nr nv) (hk : k < nb) : fX10_bicycleOf x (nI k) 3 = some (g (32 + 6 * k + 3)) := by
  obtain ⟨⟨h0, h1, h2, h3, hs6, hb16, hr8, hv2⟩, ⟨tm, h4, ht⟩, ⟨⟨t5, h5, ht5⟩, ⟨t6, h6, ht6, ht6b⟩, ⟨t7, h7, ht7⟩⟩, hpl, hdk, hbc, hrd, hvn, hzS, hzB, hzR, hzV⟩ := id hI
  exact re_b h (by rw [fX11_bicycleOf, M_isBicycle (by rw [hσ]; exact h1), hs_t hk (by omega), bd_s, if_neg ne10, M_in2 (by decide) (by decide), bd_s, if_neg ne10, M_ofB3 (by omega), bd_s, hσ])
theorem VB_4 (h : Rel x σ) (hσ : σ 0 = g) (hI : IG g ns nb nr nv) (hk : k < nb) : fX10_bicycleOf x (nI k) 4 = some (g (32 + 6 * k + 4)) := by
  obtain ⟨⟨h0, h1, h2, h3, hs6, hb16, hr8, hv2⟩, ⟨tm, h4, ht⟩, ⟨⟨t5, h5, ht5⟩, ⟨t6, h6, ht6, ht6b⟩, ⟨t7, h7, ht7⟩⟩, hpl, hdk, hbc, hrd, hvn, hzS, hzB, hzR, hzV⟩ := id hI
  exact re_b h (by rw [fX11_bicycleOf, M_isBicycle (by rw [hσ]; exact h1), hs_t hk (by omega), bd_s, if_neg ne10, M_in2 (by decide) (by decide), bd_s, if_neg ne10, M_ofB4 (by omega), bd_s, hσ])
theorem VB_5 (h : Rel x σ) (hσ : σ 0 = g) (hI : IG g ns nb nr nv) (hk : k < nb) : fX10_bicycleOf x (nI k) 5 = some (-1) := by
  obtain ⟨⟨h0, h1, h2, h3, hs6, hb16, hr8, hv2⟩, ⟨tm, h4, ht⟩, ⟨⟨t5, h5, ht5⟩, ⟨t6, h6, ht6, ht6b⟩, ⟨t7, h7, ht7⟩⟩, hpl, hdk, hbc, hrd, hvn, hzS, hzB, hzR, hzV⟩ := id hI
  exact re_b h (by rw [fX11_bicycleOf, M_isBicycle (by rw [hσ]; exact h1), hs_t hk (by omega), bd_s, if_neg ne10, M_in1 (by decide) (by decide), bd_s, if_pos rfl])
theorem VB_n (h : Rel x σ) (hσ : σ 0 = g) (hI : IG g ns nb nr nv)  : fX10_bicycleOf x (nI nb) 0 = some (-1) := by
  obtain ⟨⟨h0, h1, h2, h3, hs6, hb16, hr8, hv2⟩, ⟨tm, h4, ht⟩, ⟨⟨t5, h5, ht5⟩, ⟨t6, h6, ht6, ht6b⟩, ⟨t7, h7, ht7⟩⟩, hpl, hdk, hbc, hrd, hvn, hzS, hzB, hzR, hzV⟩ := id hI
  exact re_b h (by rw [fX11_bicycleOf, M_isBicycle (by rw [hσ]; exact h1), hs_f (no_i (by omega) (Nat.le_refl _)) (by omega), bd_s, if_pos rfl])
theorem VR_0 (h : Rel x σ) (hσ : σ 0 = g) (hI : IG g ns nb nr nv) (hk : k < nr) : fX10_riderOf x (nI k) 0 = some (g (128 + 9 * k)) := by
  obtain ⟨⟨h0, h1, h2, h3, hs6, hb16, hr8, hv2⟩, ⟨tm, h4, ht⟩, ⟨⟨t5, h5, ht5⟩, ⟨t6, h6, ht6, ht6b⟩, ⟨t7, h7, ht7⟩⟩, hpl, hdk, hbc, hrd, hvn, hzS, hzB, hzR, hzV⟩ := id hI
  exact re_r h (by rw [fX11_riderOf, M_isRider (by rw [hσ]; exact h2), hs_t hk (by omega), bd_s, if_neg ne10, M_in2 (by decide) (by decide), bd_s, if_neg ne10, if_pos rfl, M_ofR0 (by omega), bd_s, hσ])
theorem VR_1a (h : Rel x σ) (hσ : σ 0 = g) (hI : IG g ns nb nr nv) (hk : k < nr) (c : g (128 + 9 * k + 1) ≤ g 4) : fX10_riderOf x (nI k) 1 = some 0 := by
  obtain ⟨⟨h0, h1, h2, h3, hs6, hb16, hr8, hv2⟩, ⟨tm, h4, ht⟩, ⟨⟨t5, h5, ht5⟩, ⟨t6, h6, ht6, ht6b⟩, ⟨t7, h7, ht7⟩⟩, hpl, hdk, hbc, hrd, hvn, hzS, hzB, hzR, hzV⟩ := id hI
  exact re_r h (by rw [fX11_riderOf, M_isRider (by rw [hσ]; exact h2), hs_t hk (by omega), bd_s, if_neg ne10, M_in2 (by decide) (by decide), bd_s, if_neg ne10, if_neg ne10, if_pos rfl, M_hasPass (by omega), hσ, if_pos c, bd_s, if_pos rfl])
theorem VR_1b (h : Rel x σ) (hσ : σ 0 = g) (hI : IG g ns nb nr nv) (hk : k < nr) (c : ¬ g (128 + 9 * k + 1) ≤ g 4) : fX10_riderOf x (nI k) 1 = some (g (128 + 9 * k + 1) - g 4) := by
  obtain ⟨⟨h0, h1, h2, h3, hs6, hb16, hr8, hv2⟩, ⟨tm, h4, ht⟩, ⟨⟨t5, h5, ht5⟩, ⟨t6, h6, ht6, ht6b⟩, ⟨t7, h7, ht7⟩⟩, hpl, hdk, hbc, hrd, hvn, hzS, hzB, hzR, hzV⟩ := id hI
  exact re_r h (by rw [fX11_riderOf, M_isRider (by rw [hσ]; exact h2), hs_t hk (by omega), bd_s, if_neg ne10, M_in2 (by decide) (by decide), bd_s, if_neg ne10, if_neg ne10, if_pos rfl, M_hasPass (by omega), hσ, if_neg c, bd_s, if_neg ne10, M_ofR1 (by omega), bd_s, ct4, hσ])
theorem VR_2a (h : Rel x σ) (hσ : σ 0 = g) (hI : IG g ns nb nr nv) (hk : k < nr) (c : rdN g k = 0) : fX10_riderOf x (nI k) 2 = some (-4) := by
  obtain ⟨⟨h0, h1, h2, h3, hs6, hb16, hr8, hv2⟩, ⟨tm, h4, ht⟩, ⟨⟨t5, h5, ht5⟩, ⟨t6, h6, ht6, ht6b⟩, ⟨t7, h7, ht7⟩⟩, hpl, hdk, hbc, hrd, hvn, hzS, hzB, hzR, hzV⟩ := id hI
  have M2 : fX11_rides σ (nI k) = some (rdN g k) := by rw [M_rides (nb := nb) (by omega) (by rw [hσ]; exact hrd k hk) hb16, hσ]
  exact re_r h (by rw [fX11_riderOf, M_isRider (by rw [hσ]; exact h2), hs_t hk (by omega), bd_s, if_neg ne10, M_in2 (by decide) (by decide), bd_s, if_neg ne10, if_neg (show ¬ (2 : Int32) = 0 by decide), if_neg (show ¬ (2 : Int32) = 1 by decide), if_pos (show (2 : Int32) ≤ 5 by decide), M2, bd_s, if_pos c])
theorem VR_2b (h : Rel x σ) (hσ : σ 0 = g) (hI : IG g ns nb nr nv) (hk : k < nr) (c : ¬ rdN g k = 0) : fX10_riderOf x (nI k) 2 = some (g (128 + 9 * k + 2)) := by
  obtain ⟨⟨h0, h1, h2, h3, hs6, hb16, hr8, hv2⟩, ⟨tm, h4, ht⟩, ⟨⟨t5, h5, ht5⟩, ⟨t6, h6, ht6, ht6b⟩, ⟨t7, h7, ht7⟩⟩, hpl, hdk, hbc, hrd, hvn, hzS, hzB, hzR, hzV⟩ := id hI
  have M2 : fX11_rides σ (nI k) = some (rdN g k) := by rw [M_rides (nb := nb) (by omega) (by rw [hσ]; exact hrd k hk) hb16, hσ]
  exact re_r h (by rw [fX11_riderOf, M_isRider (by rw [hσ]; exact h2), hs_t hk (by omega), bd_s, if_neg ne10, M_in2 (by decide) (by decide), bd_s, if_neg ne10, if_neg (show ¬ (2 : Int32) = 0 by decide), if_neg (show ¬ (2 : Int32) = 1 by decide), if_pos (show (2 : Int32) ≤ 5 by decide), M2, bd_s, if_neg c, if_pos rfl, M_ofR2 (by omega), bd_s, hσ])
theorem VR_3a (h : Rel x σ) (hσ : σ 0 = g) (hI : IG g ns nb nr nv) (hk : k < nr) (c : rdN g k = 0) : fX10_riderOf x (nI k) 3 = some (-4) := by
  obtain ⟨⟨h0, h1, h2, h3, hs6, hb16, hr8, hv2⟩, ⟨tm, h4, ht⟩, ⟨⟨t5, h5, ht5⟩, ⟨t6, h6, ht6, ht6b⟩, ⟨t7, h7, ht7⟩⟩, hpl, hdk, hbc, hrd, hvn, hzS, hzB, hzR, hzV⟩ := id hI
  have M2 : fX11_rides σ (nI k) = some (rdN g k) := by rw [M_rides (nb := nb) (by omega) (by rw [hσ]; exact hrd k hk) hb16, hσ]
  exact re_r h (by rw [fX11_riderOf, M_isRider (by rw [hσ]; exact h2), hs_t hk (by omega), bd_s, if_neg ne10, M_in2 (by decide) (by decide), bd_s, if_neg ne10, if_neg (show ¬ (3 : Int32) = 0 by decide), if_neg (show ¬ (3 : Int32) = 1 by decide), if_pos (show (3 : Int32) ≤ 5 by decide), M2, bd_s, if_pos c])
theorem VR_3b (h : Rel x σ) (hσ : σ 0 = g) (hI : IG g ns nb nr nv) (hk : k < nr) (c : ¬ rdN g k = 0) : fX10_riderOf x (nI k) 3 = some (g 4 - g (128 + 9 * k + 3)) := by
  obtain ⟨⟨h0, h1, h2, h3, hs6, hb16, hr8, hv2⟩, ⟨tm, h4, ht⟩, ⟨⟨t5, h5, ht5⟩, ⟨t6, h6, ht6, ht6b⟩, ⟨t7, h7, ht7⟩⟩, hpl, hdk, hbc, hrd, hvn, hzS, hzB, hzR, hzV⟩ := id hI
  have M2 : fX11_rides σ (nI k) = some (rdN g k) := by rw [M_rides (nb := nb) (by omega) (by rw [hσ]; exact hrd k hk) hb16, hσ]
  exact re_r h (by rw [fX11_riderOf, M_isRider (by rw [hσ]; exact h2), hs_t hk (by omega), bd_s, if_neg ne10, M_in2 (by decide) (by decide), bd_s, if_neg ne10, if_neg (show ¬ (3 : Int32) = 0 by decide), if_neg (show ¬ (3 : Int32) = 1 by decide), if_pos (show (3 : Int32) ≤ 5 by decide), M2, bd_s, if_neg c, if_neg (show ¬ (3 : Int32) = 2 by decide), if_pos rfl, M_ofR3 (by omega), bd_s, ct4, hσ])
theorem VR_4a (h : Rel x σ) (hσ : σ 0 = g) (hI : IG g ns nb nr nv) (hk : k < nr) (c : rdN g k = 0) : fX10_riderOf x (nI k) 4 = some (-4) := by
  obtain ⟨⟨h0, h1, h2, h3, hs6, hb16, hr8, hv2⟩, ⟨tm, h4, ht⟩, ⟨⟨t5, h5, ht5⟩, ⟨t6, h6, ht6, ht6b⟩, ⟨t7, h7, ht7⟩⟩, hpl, hdk, hbc, hrd, hvn, hzS, hzB, hzR, hzV⟩ := id hI
  have M2 : fX11_rides σ (nI k) = some (rdN g k) := by rw [M_rides (nb := nb) (by omega) (by rw [hσ]; exact hrd k hk) hb16, hσ]
  exact re_r h (by rw [fX11_riderOf, M_isRider (by rw [hσ]; exact h2), hs_t hk (by omega), bd_s, if_neg ne10, M_in2 (by decide) (by decide), bd_s, if_neg ne10, if_neg (show ¬ (4 : Int32) = 0 by decide), if_neg (show ¬ (4 : Int32) = 1 by decide), if_pos (show (4 : Int32) ≤ 5 by decide), M2, bd_s, if_pos c])
theorem VR_4b (h : Rel x σ) (hσ : σ 0 = g) (hI : IG g ns nb nr nv) (hk : k < nr) (c : ¬ rdN g k = 0) : fX10_riderOf x (nI k) 4 = some (g (128 + 9 * k + 4)) := by
  obtain ⟨⟨h0, h1, h2, h3, hs6, hb16, hr8, hv2⟩, ⟨tm, h4, ht⟩, ⟨⟨t5, h5, ht5⟩, ⟨t6, h6, ht6, ht6b⟩, ⟨t7, h7, ht7⟩⟩, hpl, hdk, hbc, hrd, hvn, hzS, hzB, hzR, hzV⟩ := id hI
  have M2 : fX11_rides σ (nI k) = some (rdN g k) := by rw [M_rides (nb := nb) (by omega) (by rw [hσ]; exact hrd k hk) hb16, hσ]
  exact re_r h (by rw [fX11_riderOf, M_isRider (by rw [hσ]; exact h2), hs_t hk (by omega), bd_s, if_neg ne10, M_in2 (by decide) (by decide), bd_s, if_neg ne10, if_neg (show ¬ (4 : Int32) = 0 by decide), if_neg (show ¬ (4 : Int32) = 1 by decide), if_pos (show (4 : Int32) ≤ 5 by decide), M2, bd_s, if_neg c, if_neg (show ¬ (4 : Int32) = 2 by decide), if_neg (show ¬ (4 : Int32) = 3 by decide), if_pos rfl, M_ofR4 (by omega), bd_s, hσ])
theorem VR_5a (h : Rel x σ) (hσ : σ 0 = g) (hI : IG g ns nb nr nv) (hk : k < nr) (c : rdN g k = 0) : fX10_riderOf x (nI k) 5 = some (-4) := by
  obtain ⟨⟨h0, h1, h2, h3, hs6, hb16, hr8, hv2⟩, ⟨tm, h4, ht⟩, ⟨⟨t5, h5, ht5⟩, ⟨t6, h6, ht6, ht6b⟩, ⟨t7, h7, ht7⟩⟩, hpl, hdk, hbc, hrd, hvn, hzS, hzB, hzR, hzV⟩ := id hI
  have M2 : fX11_rides σ (nI k) = some (rdN g k) := by rw [M_rides (nb := nb) (by omega) (by rw [hσ]; exact hrd k hk) hb16, hσ]
  exact re_r h (by rw [fX11_riderOf, M_isRider (by rw [hσ]; exact h2), hs_t hk (by omega), bd_s, if_neg ne10, M_in2 (by decide) (by decide), bd_s, if_neg ne10, if_neg (show ¬ (5 : Int32) = 0 by decide), if_neg (show ¬ (5 : Int32) = 1 by decide), if_pos (show (5 : Int32) ≤ 5 by decide), M2, bd_s, if_pos c])
theorem VR_5b (h : Rel x σ) (hσ : σ 0 = g) (hI : IG g ns nb nr nv) (hk : k < nr) (c : ¬ rdN g k = 0) {F : Nat} (hF : ∀ σ : T2, σ 0 = g → fX11_fee σ (nI k) = some (nI F)) : fX10_riderOf x (nI k) 5 = some (nI F) := by
  obtain ⟨⟨h0, h1, h2, h3, hs6, hb16, hr8, hv2⟩, ⟨tm, h4, ht⟩, ⟨⟨t5, h5, ht5⟩, ⟨t6, h6, ht6, ht6b⟩, ⟨t7, h7, ht7⟩⟩, hpl, hdk, hbc, hrd, hvn, hzS, hzB, hzR, hzV⟩ := id hI
  have M2 : fX11_rides σ (nI k) = some (rdN g k) := by rw [M_rides (nb := nb) (by omega) (by rw [hσ]; exact hrd k hk) hb16, hσ]
  exact re_r h (by rw [fX11_riderOf, M_isRider (by rw [hσ]; exact h2), hs_t hk (by omega), bd_s, if_neg ne10, M_in2 (by decide) (by decide), bd_s, if_neg ne10, if_neg (show ¬ (5 : Int32) = 0 by decide), if_neg (show ¬ (5 : Int32) = 1 by decide), if_pos (show (5 : Int32) ≤ 5 by decide), M2, bd_s, if_neg c, if_neg (show ¬ (5 : Int32) = 2 by decide), if_neg (show ¬ (5 : Int32) = 3 by decide), if_neg (show ¬ (5 : Int32) = 4 by decide), hF σ hσ, bd_s])
theorem VR_6 (h : Rel x σ) (hσ : σ 0 = g) (hI : IG g ns nb nr nv) (hk : k < nr) : fX10_riderOf x (nI k) 6 = some (g (128 + 9 * k + 7)) := by
  obtain ⟨⟨h0, h1, h2, h3, hs6, hb16, hr8, hv2⟩, ⟨tm, h4, ht⟩, ⟨⟨t5, h5, ht5⟩, ⟨t6, h6, ht6, ht6b⟩, ⟨t7, h7, ht7⟩⟩, hpl, hdk, hbc, hrd, hvn, hzS, hzB, hzR, hzV⟩ := id hI
  exact re_r h (by rw [fX11_riderOf, M_isRider (by rw [hσ]; exact h2), hs_t hk (by omega), bd_s, if_neg ne10, M_in2 (by decide) (by decide), bd_s, if_neg ne10, if_neg (show ¬ (6 : Int32) = 0 by decide), if_neg (show ¬ (6 : Int32) = 1 by decide), if_neg (show ¬ (6 : Int32) ≤ 5 by decide), show (6 : Int32) + 1 = 7 by decide, M_ofR7 (by omega), bd_s, hσ])
theorem VR_7 (h : Rel x σ) (hσ : σ 0 = g) (hI : IG g ns nb nr nv) (hk : k < nr) : fX10_riderOf x (nI k) 7 = some (g (128 + 9 * k + 8)) := by
  obtain ⟨⟨h0, h1, h2, h3, hs6, hb16, hr8, hv2⟩, ⟨tm, h4, ht⟩, ⟨⟨t5, h5, ht5⟩, ⟨t6, h6, ht6, ht6b⟩, ⟨t7, h7, ht7⟩⟩, hpl, hdk, hbc, hrd, hvn, hzS, hzB, hzR, hzV⟩ := id hI
  exact re_r h (by rw [fX11_riderOf, M_isRider (by rw [hσ]; exact h2), hs_t hk (by omega), bd_s, if_neg ne10, M_in2 (by decide) (by decide), bd_s, if_neg ne10, if_neg (show ¬ (7 : Int32) = 0 by decide), if_neg (show ¬ (7 : Int32) = 1 by decide), if_neg (show ¬ (7 : Int32) ≤ 5 by decide), show (7 : Int32) + 1 = 8 by decide, M_ofR8 (by omega), bd_s, hσ])
theorem VR_8 (h : Rel x σ) (hσ : σ 0 = g) (hI : IG g ns nb nr nv) (hk : k < nr) : fX10_riderOf x (nI k) 8 = some (-1) := by
  obtain ⟨⟨h0, h1, h2, h3, hs6, hb16, hr8, hv2⟩, ⟨tm, h4, ht⟩, ⟨⟨t5, h5, ht5⟩, ⟨t6, h6, ht6, ht6b⟩, ⟨t7, h7, ht7⟩⟩, hpl, hdk, hbc, hrd, hvn, hzS, hzB, hzR, hzV⟩ := id hI
  exact re_r h (by rw [fX11_riderOf, M_isRider (by rw [hσ]; exact h2), hs_t hk (by omega), bd_s, if_neg ne10, M_in1 (by decide) (by decide), bd_s, if_pos rfl])
theorem VR_n (h : Rel x σ) (hσ : σ 0 = g) (hI : IG g ns nb nr nv)  : fX10_riderOf x (nI nr) 0 = some (-1) := by
  obtain ⟨⟨h0, h1, h2, h3, hs6, hb16, hr8, hv2⟩, ⟨tm, h4, ht⟩, ⟨⟨t5, h5, ht5⟩, ⟨t6, h6, ht6, ht6b⟩, ⟨t7, h7, ht7⟩⟩, hpl, hdk, hbc, hrd, hvn, hzS, hzB, hzR, hzV⟩ := id hI
  exact re_r h (by rw [fX11_riderOf, M_isRider (by rw [hσ]; exact h2), hs_f (no_i (by omega) (Nat.le_refl _)) (by omega), bd_s, if_pos rfl])
theorem VV_0 (h : Rel x σ) (hσ : σ 0 = g) (hI : IG g ns nb nr nv) (hk : k < nv) : fX10_vanOf x (nI k) 0 = some (g (200 + 3 * k)) := by
  obtain ⟨⟨h0, h1, h2, h3, hs6, hb16, hr8, hv2⟩, ⟨tm, h4, ht⟩, ⟨⟨t5, h5, ht5⟩, ⟨t6, h6, ht6, ht6b⟩, ⟨t7, h7, ht7⟩⟩, hpl, hdk, hbc, hrd, hvn, hzS, hzB, hzR, hzV⟩ := id hI
  exact re_v h (by rw [fX11_vanOf, M_isVan (by rw [hσ]; exact h3), hs_t hk (by omega), bd_s, if_neg ne10, M_in2 (by decide) (by decide), bd_s, if_neg ne10, if_neg (show ¬ (2 : Int32) ≤ 0 by decide), M_ofV0 (by omega), bd_s, hσ])
theorem VV_1 (h : Rel x σ) (hσ : σ 0 = g) (hI : IG g ns nb nr nv) (hk : k < nv) : fX10_vanOf x (nI k) 1 = some (g (200 + 3 * k + 1)) := by
  obtain ⟨⟨h0, h1, h2, h3, hs6, hb16, hr8, hv2⟩, ⟨tm, h4, ht⟩, ⟨⟨t5, h5, ht5⟩, ⟨t6, h6, ht6, ht6b⟩, ⟨t7, h7, ht7⟩⟩, hpl, hdk, hbc, hrd, hvn, hzS, hzB, hzR, hzV⟩ := id hI
  exact re_v h (by rw [fX11_vanOf, M_isVan (by rw [hσ]; exact h3), hs_t hk (by omega), bd_s, if_neg ne10, M_in2 (by decide) (by decide), bd_s, if_neg ne10, if_neg (show ¬ (2 : Int32) ≤ 1 by decide), M_ofV1 (by omega), bd_s, hσ])
theorem VV_2 (h : Rel x σ) (hσ : σ 0 = g) (hI : IG g ns nb nr nv) (hk : k < nv) : fX10_vanOf x (nI k) 2 = some (ts g 2 (nI k) nb) := by
  obtain ⟨⟨h0, h1, h2, h3, hs6, hb16, hr8, hv2⟩, ⟨tm, h4, ht⟩, ⟨⟨t5, h5, ht5⟩, ⟨t6, h6, ht6, ht6b⟩, ⟨t7, h7, ht7⟩⟩, hpl, hdk, hbc, hrd, hvn, hzS, hzB, hzR, hzV⟩ := id hI
  exact re_v h (by rw [fX11_vanOf, M_isVan (by rw [hσ]; exact h3), hs_t hk (by omega), bd_s, if_neg ne10, M_in2 (by decide) (by decide), bd_s, if_neg ne10, if_pos (show (2 : Int32) ≤ 2 by decide), if_pos rfl, M_those (by rw [hσ]; exact h1) hb16, bd_s, hσ])
theorem VV_3a (h : Rel x σ) (hσ : σ 0 = g) (hI : IG g ns nb nr nv) (hk : k < nv) (c : g (200 + 3 * k + 2) ≤ g 4) : fX10_vanOf x (nI k) 3 = some 0 := by
  obtain ⟨⟨h0, h1, h2, h3, hs6, hb16, hr8, hv2⟩, ⟨tm, h4, ht⟩, ⟨⟨t5, h5, ht5⟩, ⟨t6, h6, ht6, ht6b⟩, ⟨t7, h7, ht7⟩⟩, hpl, hdk, hbc, hrd, hvn, hzS, hzB, hzR, hzV⟩ := id hI
  have Mu : fX11_isUnderWay σ (nI k) = some (uw g k) := by rw [M_under (by omega), hσ]
  have e : uw g k = 0 := if_pos c
  exact re_v h (by rw [fX11_vanOf, M_isVan (by rw [hσ]; exact h3), hs_t hk (by omega), bd_s, if_neg ne10, M_in2 (by decide) (by decide), bd_s, if_neg ne10, if_pos (show (2 : Int32) ≤ 3 by decide), if_neg (show ¬ (3 : Int32) = 2 by decide), Mu, bd_s, e, if_pos rfl])
theorem VV_3b (h : Rel x σ) (hσ : σ 0 = g) (hI : IG g ns nb nr nv) (hk : k < nv) (c : ¬ g (200 + 3 * k + 2) ≤ g 4) : fX10_vanOf x (nI k) 3 = some (g (200 + 3 * k + 2) - g 4) := by
  obtain ⟨⟨h0, h1, h2, h3, hs6, hb16, hr8, hv2⟩, ⟨tm, h4, ht⟩, ⟨⟨t5, h5, ht5⟩, ⟨t6, h6, ht6, ht6b⟩, ⟨t7, h7, ht7⟩⟩, hpl, hdk, hbc, hrd, hvn, hzS, hzB, hzR, hzV⟩ := id hI
  have Mu : fX11_isUnderWay σ (nI k) = some (uw g k) := by rw [M_under (by omega), hσ]
  have e : uw g k = 1 := if_neg c
  exact re_v h (by rw [fX11_vanOf, M_isVan (by rw [hσ]; exact h3), hs_t hk (by omega), bd_s, if_neg ne10, M_in2 (by decide) (by decide), bd_s, if_neg ne10, if_pos (show (2 : Int32) ≤ 3 by decide), if_neg (show ¬ (3 : Int32) = 2 by decide), Mu, bd_s, e, if_neg ne10, M_ofV2 (by omega), bd_s, ct4, hσ])
theorem VV_4 (h : Rel x σ) (hσ : σ 0 = g) (hI : IG g ns nb nr nv) (hk : k < nv) : fX10_vanOf x (nI k) 4 = some (-1) := by
  obtain ⟨⟨h0, h1, h2, h3, hs6, hb16, hr8, hv2⟩, ⟨tm, h4, ht⟩, ⟨⟨t5, h5, ht5⟩, ⟨t6, h6, ht6, ht6b⟩, ⟨t7, h7, ht7⟩⟩, hpl, hdk, hbc, hrd, hvn, hzS, hzB, hzR, hzV⟩ := id hI
  exact re_v h (by rw [fX11_vanOf, M_isVan (by rw [hσ]; exact h3), hs_t hk (by omega), bd_s, if_neg ne10, M_in1 (by decide) (by decide), bd_s, if_pos rfl])
theorem VV_n (h : Rel x σ) (hσ : σ 0 = g) (hI : IG g ns nb nr nv)  : fX10_vanOf x (nI nv) 0 = some (-1) := by
  obtain ⟨⟨h0, h1, h2, h3, hs6, hb16, hr8, hv2⟩, ⟨tm, h4, ht⟩, ⟨⟨t5, h5, ht5⟩, ⟨t6, h6, ht6, ht6b⟩, ⟨t7, h7, ht7⟩⟩, hpl, hdk, hbc, hrd, hvn, hzS, hzB, hzR, hzV⟩ := id hI
  exact re_v h (by rw [fX11_vanOf, M_isVan (by rw [hσ]; exact h3), hs_f (no_i (by omega) (Nat.le_refl _)) (by omega), bd_s, if_pos rfl])
theorem VS_0 (h : Rel x σ) (hσ : σ 0 = g) (hI : IG g ns nb nr nv) (hk : k < ns) : ∃ x', fX10_stationOf x (nI k) 0 = some (g (8 + 4 * k), x') ∧ Rel x' σ := by
  obtain ⟨⟨h0, h1, h2, h3, hs6, hb16, hr8, hv2⟩, ⟨tm, h4, ht⟩, ⟨⟨t5, h5, ht5⟩, ⟨t6, h6, ht6, ht6b⟩, ⟨t7, h7, ht7⟩⟩, hpl, hdk, hbc, hrd, hvn, hzS, hzB, hzR, hzV⟩ := id hI
  exact re_s h (by rw [fX11_stationOf, M_isStation (by rw [hσ]; exact h0), hs_t hk (by omega), bd_s, if_neg ne10, M_in2 (by decide) (by decide), bd_s, if_neg ne10, if_pos rfl, M_ofS0 (by omega), bd_s, hσ])
theorem VS_1 (h : Rel x σ) (hσ : σ 0 = g) (hI : IG g ns nb nr nv) (hk : k < ns) : ∃ x', fX10_stationOf x (nI k) 1 = some (g (8 + 4 * k + 1), x') ∧ Rel x' σ := by
  obtain ⟨⟨h0, h1, h2, h3, hs6, hb16, hr8, hv2⟩, ⟨tm, h4, ht⟩, ⟨⟨t5, h5, ht5⟩, ⟨t6, h6, ht6, ht6b⟩, ⟨t7, h7, ht7⟩⟩, hpl, hdk, hbc, hrd, hvn, hzS, hzB, hzR, hzV⟩ := id hI
  exact re_s h (by rw [fX11_stationOf, M_isStation (by rw [hσ]; exact h0), hs_t hk (by omega), bd_s, if_neg ne10, M_in2 (by decide) (by decide), bd_s, if_neg ne10, if_neg ne10, if_pos rfl, M_ofS1 (by omega), bd_s, hσ])
theorem VS_2 (h : Rel x σ) (hσ : σ 0 = g) (hI : IG g ns nb nr nv) (hk : k < ns) : ∃ x', fX10_stationOf x (nI k) 2 = some (ts g 0 (nI k) nb, x') ∧ Rel x' σ := by
  obtain ⟨⟨h0, h1, h2, h3, hs6, hb16, hr8, hv2⟩, ⟨tm, h4, ht⟩, ⟨⟨t5, h5, ht5⟩, ⟨t6, h6, ht6, ht6b⟩, ⟨t7, h7, ht7⟩⟩, hpl, hdk, hbc, hrd, hvn, hzS, hzB, hzR, hzV⟩ := id hI
  exact re_s h (by rw [fX11_stationOf, M_isStation (by rw [hσ]; exact h0), hs_t hk (by omega), bd_s, if_neg ne10, M_in2 (by decide) (by decide), bd_s, if_neg ne10, if_neg (show ¬ (2 : Int32) = 0 by decide), if_neg (show ¬ (2 : Int32) = 1 by decide), if_pos rfl, M_those (by rw [hσ]; exact h1) hb16, bd_s, hσ])
theorem VS_5 (h : Rel x σ) (hσ : σ 0 = g) (hI : IG g ns nb nr nv) (hk : k < ns) : ∃ x', fX10_stationOf x (nI k) 5 = some (g (8 + 4 * k + 2), x') ∧ Rel x' σ := by
  obtain ⟨⟨h0, h1, h2, h3, hs6, hb16, hr8, hv2⟩, ⟨tm, h4, ht⟩, ⟨⟨t5, h5, ht5⟩, ⟨t6, h6, ht6, ht6b⟩, ⟨t7, h7, ht7⟩⟩, hpl, hdk, hbc, hrd, hvn, hzS, hzB, hzR, hzV⟩ := id hI
  exact re_s h (by rw [fX11_stationOf, M_isStation (by rw [hσ]; exact h0), hs_t hk (by omega), bd_s, if_neg ne10, M_in2 (by decide) (by decide), bd_s, if_neg ne10, if_neg (show ¬ (5 : Int32) = 0 by decide), if_neg (show ¬ (5 : Int32) = 1 by decide), if_neg (show ¬ (5 : Int32) = 2 by decide), if_neg (show ¬ (5 : Int32) = 3 by decide), if_neg (show ¬ (5 : Int32) = 4 by decide), show (5 : Int32) - 3 = 2 by decide, M_ofS2 (by omega), bd_s, hσ])
theorem VS_6 (h : Rel x σ) (hσ : σ 0 = g) (hI : IG g ns nb nr nv) (hk : k < ns) : ∃ x', fX10_stationOf x (nI k) 6 = some (g (8 + 4 * k + 3), x') ∧ Rel x' σ := by
  obtain ⟨⟨h0, h1, h2, h3, hs6, hb16, hr8, hv2⟩, ⟨tm, h4, ht⟩, ⟨⟨t5, h5, ht5⟩, ⟨t6, h6, ht6, ht6b⟩, ⟨t7, h7, ht7⟩⟩, hpl, hdk, hbc, hrd, hvn, hzS, hzB, hzR, hzV⟩ := id hI
  exact re_s h (by rw [fX11_stationOf, M_isStation (by rw [hσ]; exact h0), hs_t hk (by omega), bd_s, if_neg ne10, M_in2 (by decide) (by decide), bd_s, if_neg ne10, if_neg (show ¬ (6 : Int32) = 0 by decide), if_neg (show ¬ (6 : Int32) = 1 by decide), if_neg (show ¬ (6 : Int32) = 2 by decide), if_neg (show ¬ (6 : Int32) = 3 by decide), if_neg (show ¬ (6 : Int32) = 4 by decide), show (6 : Int32) - 3 = 3 by decide, M_ofS3 (by omega), bd_s, hσ])
theorem VS_7 (h : Rel x σ) (hσ : σ 0 = g) (hI : IG g ns nb nr nv) (hk : k < ns) : ∃ x', fX10_stationOf x (nI k) 7 = some (-1, x') ∧ Rel x' σ := by
  obtain ⟨⟨h0, h1, h2, h3, hs6, hb16, hr8, hv2⟩, ⟨tm, h4, ht⟩, ⟨⟨t5, h5, ht5⟩, ⟨t6, h6, ht6, ht6b⟩, ⟨t7, h7, ht7⟩⟩, hpl, hdk, hbc, hrd, hvn, hzS, hzB, hzR, hzV⟩ := id hI
  exact re_s h (by rw [fX11_stationOf, M_isStation (by rw [hσ]; exact h0), hs_t hk (by omega), bd_s, if_neg ne10, M_in1 (by decide) (by decide), bd_s, if_pos rfl])
theorem VS_n (h : Rel x σ) (hσ : σ 0 = g) (hI : IG g ns nb nr nv)  : ∃ x', fX10_stationOf x (nI ns) 0 = some (-1, x') ∧ Rel x' σ := by
  obtain ⟨⟨h0, h1, h2, h3, hs6, hb16, hr8, hv2⟩, ⟨tm, h4, ht⟩, ⟨⟨t5, h5, ht5⟩, ⟨t6, h6, ht6, ht6b⟩, ⟨t7, h7, ht7⟩⟩, hpl, hdk, hbc, hrd, hvn, hzS, hzB, hzR, hzV⟩ := id hI
  exact re_s h (by rw [fX11_stationOf, M_isStation (by rw [hσ]; exact h0), hs_f (no_i (by omega) (Nat.le_refl _)) (by omega), bd_s, if_pos rfl])
theorem VC_0 (h : Rel x σ) (hσ : σ 0 = g) (hI : IG g ns nb nr nv)  : fX10_count x 0 = some (g 0) := by
  obtain ⟨⟨h0, h1, h2, h3, hs6, hb16, hr8, hv2⟩, ⟨tm, h4, ht⟩, ⟨⟨t5, h5, ht5⟩, ⟨t6, h6, ht6, ht6b⟩, ⟨t7, h7, ht7⟩⟩, hpl, hdk, hbc, hrd, hvn, hzS, hzB, hzR, hzV⟩ := id hI
  exact re_c h (by rw [fX11_count, if_pos rfl, show gi (0 : Int32) 206 _ = _ from gi_nI (i := 0) (n := 206) (by decide) (by decide), ct0, hσ])
theorem VC_1 (h : Rel x σ) (hσ : σ 0 = g) (hI : IG g ns nb nr nv)  : fX10_count x 1 = some (g 1) := by
  obtain ⟨⟨h0, h1, h2, h3, hs6, hb16, hr8, hv2⟩, ⟨tm, h4, ht⟩, ⟨⟨t5, h5, ht5⟩, ⟨t6, h6, ht6, ht6b⟩, ⟨t7, h7, ht7⟩⟩, hpl, hdk, hbc, hrd, hvn, hzS, hzB, hzR, hzV⟩ := id hI
  exact re_c h (by rw [fX11_count, if_neg (show ¬ (1 : Int32) = 0 by decide), if_pos rfl, show gi (1 : Int32) 206 _ = _ from gi_nI (i := 1) (n := 206) (by decide) (by decide), ct1, hσ])
theorem VC_2 (h : Rel x σ) (hσ : σ 0 = g) (hI : IG g ns nb nr nv)  : fX10_count x 2 = some (g 2) := by
  obtain ⟨⟨h0, h1, h2, h3, hs6, hb16, hr8, hv2⟩, ⟨tm, h4, ht⟩, ⟨⟨t5, h5, ht5⟩, ⟨t6, h6, ht6, ht6b⟩, ⟨t7, h7, ht7⟩⟩, hpl, hdk, hbc, hrd, hvn, hzS, hzB, hzR, hzV⟩ := id hI
  exact re_c h (by rw [fX11_count, if_neg (show ¬ (2 : Int32) = 0 by decide), if_neg (show ¬ (2 : Int32) = 1 by decide), if_pos rfl, show gi (2 : Int32) 206 _ = _ from gi_nI (i := 2) (n := 206) (by decide) (by decide), ct2, hσ])
theorem VC_3 (h : Rel x σ) (hσ : σ 0 = g) (hI : IG g ns nb nr nv)  : fX10_count x 3 = some (g 3) := by
  obtain ⟨⟨h0, h1, h2, h3, hs6, hb16, hr8, hv2⟩, ⟨tm, h4, ht⟩, ⟨⟨t5, h5, ht5⟩, ⟨t6, h6, ht6, ht6b⟩, ⟨t7, h7, ht7⟩⟩, hpl, hdk, hbc, hrd, hvn, hzS, hzB, hzR, hzV⟩ := id hI
  exact re_c h (by rw [fX11_count, if_neg (show ¬ (3 : Int32) = 0 by decide), if_neg (show ¬ (3 : Int32) = 1 by decide), if_neg (show ¬ (3 : Int32) = 2 by decide), if_pos rfl, show gi (3 : Int32) 206 _ = _ from gi_nI (i := 3) (n := 206) (by decide) (by decide), ct3, hσ])
theorem VC_4 (h : Rel x σ) (hσ : σ 0 = g) (hI : IG g ns nb nr nv)  : fX10_count x 4 = some (g 4) := by
  obtain ⟨⟨h0, h1, h2, h3, hs6, hb16, hr8, hv2⟩, ⟨tm, h4, ht⟩, ⟨⟨t5, h5, ht5⟩, ⟨t6, h6, ht6, ht6b⟩, ⟨t7, h7, ht7⟩⟩, hpl, hdk, hbc, hrd, hvn, hzS, hzB, hzR, hzV⟩ := id hI
  exact re_c h (by rw [fX11_count, if_neg (show ¬ (4 : Int32) = 0 by decide), if_neg (show ¬ (4 : Int32) = 1 by decide), if_neg (show ¬ (4 : Int32) = 2 by decide), if_neg (show ¬ (4 : Int32) = 3 by decide), if_pos rfl, show gi (4 : Int32) 206 _ = _ from gi_nI (i := 4) (n := 206) (by decide) (by decide), ct4, hσ])
theorem VC_5 (h : Rel x σ) (hσ : σ 0 = g) (hI : IG g ns nb nr nv)  : fX10_count x 5 = some (sm (fun k => if g (32 + 6 * k) = nI 0 then 1 else 0) nb) := by
  obtain ⟨⟨h0, h1, h2, h3, hs6, hb16, hr8, hv2⟩, ⟨tm, h4, ht⟩, ⟨⟨t5, h5, ht5⟩, ⟨t6, h6, ht6, ht6b⟩, ⟨t7, h7, ht7⟩⟩, hpl, hdk, hbc, hrd, hvn, hzS, hzB, hzR, hzV⟩ := id hI
  exact re_c h (by rw [fX11_count, if_neg (show ¬ (5 : Int32) = 0 by decide), if_neg (show ¬ (5 : Int32) = 1 by decide), if_neg (show ¬ (5 : Int32) = 2 by decide), if_neg (show ¬ (5 : Int32) = 3 by decide), if_neg (show ¬ (5 : Int32) = 4 by decide), if_pos rfl, show (5 : Int32) - 5 = nI 0 by decide, M_where (nI 0) (by rw [hσ]; exact h1) hb16, bd_s, hσ])
theorem VC_6 (h : Rel x σ) (hσ : σ 0 = g) (hI : IG g ns nb nr nv)  : fX10_count x 6 = some (sm (fun k => if g (32 + 6 * k) = nI 1 then 1 else 0) nb) := by
  obtain ⟨⟨h0, h1, h2, h3, hs6, hb16, hr8, hv2⟩, ⟨tm, h4, ht⟩, ⟨⟨t5, h5, ht5⟩, ⟨t6, h6, ht6, ht6b⟩, ⟨t7, h7, ht7⟩⟩, hpl, hdk, hbc, hrd, hvn, hzS, hzB, hzR, hzV⟩ := id hI
  exact re_c h (by rw [fX11_count, if_neg (show ¬ (6 : Int32) = 0 by decide), if_neg (show ¬ (6 : Int32) = 1 by decide), if_neg (show ¬ (6 : Int32) = 2 by decide), if_neg (show ¬ (6 : Int32) = 3 by decide), if_neg (show ¬ (6 : Int32) = 4 by decide), if_neg (show ¬ (6 : Int32) = 5 by decide), if_pos rfl, show (6 : Int32) - 5 = nI 1 by decide, M_where (nI 1) (by rw [hσ]; exact h1) hb16, bd_s, hσ])
theorem VC_7 (h : Rel x σ) (hσ : σ 0 = g) (hI : IG g ns nb nr nv)  : fX10_count x 7 = some (sm (fun k => if g (32 + 6 * k) = nI 2 then 1 else 0) nb) := by
  obtain ⟨⟨h0, h1, h2, h3, hs6, hb16, hr8, hv2⟩, ⟨tm, h4, ht⟩, ⟨⟨t5, h5, ht5⟩, ⟨t6, h6, ht6, ht6b⟩, ⟨t7, h7, ht7⟩⟩, hpl, hdk, hbc, hrd, hvn, hzS, hzB, hzR, hzV⟩ := id hI
  exact re_c h (by rw [fX11_count, if_neg (show ¬ (7 : Int32) = 0 by decide), if_neg (show ¬ (7 : Int32) = 1 by decide), if_neg (show ¬ (7 : Int32) = 2 by decide), if_neg (show ¬ (7 : Int32) = 3 by decide), if_neg (show ¬ (7 : Int32) = 4 by decide), if_neg (show ¬ (7 : Int32) = 5 by decide), if_neg (show ¬ (7 : Int32) = 6 by decide), if_pos rfl, show (7 : Int32) - 5 = nI 2 by decide, M_where (nI 2) (by rw [hσ]; exact h1) hb16, bd_s, hσ])
theorem VC_8 (h : Rel x σ) (hσ : σ 0 = g) (hI : IG g ns nb nr nv)  : fX10_count x 8 = some (sm (fun k => if g (32 + 6 * k) = nI 3 then 1 else 0) nb) := by
  obtain ⟨⟨h0, h1, h2, h3, hs6, hb16, hr8, hv2⟩, ⟨tm, h4, ht⟩, ⟨⟨t5, h5, ht5⟩, ⟨t6, h6, ht6, ht6b⟩, ⟨t7, h7, ht7⟩⟩, hpl, hdk, hbc, hrd, hvn, hzS, hzB, hzR, hzV⟩ := id hI
  exact re_c h (by rw [fX11_count, if_neg (show ¬ (8 : Int32) = 0 by decide), if_neg (show ¬ (8 : Int32) = 1 by decide), if_neg (show ¬ (8 : Int32) = 2 by decide), if_neg (show ¬ (8 : Int32) = 3 by decide), if_neg (show ¬ (8 : Int32) = 4 by decide), if_neg (show ¬ (8 : Int32) = 5 by decide), if_neg (show ¬ (8 : Int32) = 6 by decide), if_neg (show ¬ (8 : Int32) = 7 by decide), if_pos rfl, show (8 : Int32) - 5 = nI 3 by decide, M_where (nI 3) (by rw [hσ]; exact h1) hb16, bd_s, hσ])
theorem VC_9 (h : Rel x σ) (hσ : σ 0 = g) (hI : IG g ns nb nr nv)  : fX10_count x 9 = some (cf g nb) := by
  obtain ⟨⟨h0, h1, h2, h3, hs6, hb16, hr8, hv2⟩, ⟨tm, h4, ht⟩, ⟨⟨t5, h5, ht5⟩, ⟨t6, h6, ht6, ht6b⟩, ⟨t7, h7, ht7⟩⟩, hpl, hdk, hbc, hrd, hvn, hzS, hzB, hzR, hzV⟩ := id hI
  exact re_c h (by rw [fX11_count, if_neg (show ¬ (9 : Int32) = 0 by decide), if_neg (show ¬ (9 : Int32) = 1 by decide), if_neg (show ¬ (9 : Int32) = 2 by decide), if_neg (show ¬ (9 : Int32) = 3 by decide), if_neg (show ¬ (9 : Int32) = 4 by decide), if_neg (show ¬ (9 : Int32) = 5 by decide), if_neg (show ¬ (9 : Int32) = 6 by decide), if_neg (show ¬ (9 : Int32) = 7 by decide), if_neg (show ¬ (9 : Int32) = 8 by decide), if_pos rfl, M_faulty (by rw [hσ]; exact h1) hb16, bd_s, hσ])
theorem VC_10 (h : Rel x σ) (hσ : σ 0 = g) (hI : IG g ns nb nr nv)  : fX10_count x 10 = some (sm (fun k => g (8 + 4 * k + 1)) ns) := by
  obtain ⟨⟨h0, h1, h2, h3, hs6, hb16, hr8, hv2⟩, ⟨tm, h4, ht⟩, ⟨⟨t5, h5, ht5⟩, ⟨t6, h6, ht6, ht6b⟩, ⟨t7, h7, ht7⟩⟩, hpl, hdk, hbc, hrd, hvn, hzS, hzB, hzR, hzV⟩ := id hI
  exact re_c h (by rw [fX11_count, if_neg (show ¬ (10 : Int32) = 0 by decide), if_neg (show ¬ (10 : Int32) = 1 by decide), if_neg (show ¬ (10 : Int32) = 2 by decide), if_neg (show ¬ (10 : Int32) = 3 by decide), if_neg (show ¬ (10 : Int32) = 4 by decide), if_neg (show ¬ (10 : Int32) = 5 by decide), if_neg (show ¬ (10 : Int32) = 6 by decide), if_neg (show ¬ (10 : Int32) = 7 by decide), if_neg (show ¬ (10 : Int32) = 8 by decide), if_neg (show ¬ (10 : Int32) = 9 by decide), if_pos rfl, M_allDocks (by rw [hσ]; exact h0) hs6, bd_s, hσ])
theorem VC_11 (h : Rel x σ) (hσ : σ 0 = g) (hI : IG g ns nb nr nv)  : fX10_count x 11 = some (sm (fun k => g (128 + 9 * k)) nr) := by
  obtain ⟨⟨h0, h1, h2, h3, hs6, hb16, hr8, hv2⟩, ⟨tm, h4, ht⟩, ⟨⟨t5, h5, ht5⟩, ⟨t6, h6, ht6, ht6b⟩, ⟨t7, h7, ht7⟩⟩, hpl, hdk, hbc, hrd, hvn, hzS, hzB, hzR, hzV⟩ := id hI
  exact re_c h (by rw [fX11_count, if_neg (show ¬ (11 : Int32) = 0 by decide), if_neg (show ¬ (11 : Int32) = 1 by decide), if_neg (show ¬ (11 : Int32) = 2 by decide), if_neg (show ¬ (11 : Int32) = 3 by decide), if_neg (show ¬ (11 : Int32) = 4 by decide), if_neg (show ¬ (11 : Int32) = 5 by decide), if_neg (show ¬ (11 : Int32) = 6 by decide), if_neg (show ¬ (11 : Int32) = 7 by decide), if_neg (show ¬ (11 : Int32) = 8 by decide), if_neg (show ¬ (11 : Int32) = 9 by decide), if_neg (show ¬ (11 : Int32) = 10 by decide), if_pos rfl, show fX11_owed σ = some (sm (fun k => σ 0 (128 + 9 * k)) nr) from M_owed_lp (by rw [hσ]; exact h2) hr8 fuel 0 _ (by omega) (by unfold fuel; omega) rfl, bd_s, hσ])
theorem VC_14 (h : Rel x σ) (hσ : σ 0 = g) (hI : IG g ns nb nr nv)  : fX10_count x 14 = some (σ 6 3) := by
  obtain ⟨⟨h0, h1, h2, h3, hs6, hb16, hr8, hv2⟩, ⟨tm, h4, ht⟩, ⟨⟨t5, h5, ht5⟩, ⟨t6, h6, ht6, ht6b⟩, ⟨t7, h7, ht7⟩⟩, hpl, hdk, hbc, hrd, hvn, hzS, hzB, hzR, hzV⟩ := id hI
  exact re_c h (by rw [fX11_count, if_neg (show ¬ (14 : Int32) = 0 by decide), if_neg (show ¬ (14 : Int32) = 1 by decide), if_neg (show ¬ (14 : Int32) = 2 by decide), if_neg (show ¬ (14 : Int32) = 3 by decide), if_neg (show ¬ (14 : Int32) = 4 by decide), if_neg (show ¬ (14 : Int32) = 5 by decide), if_neg (show ¬ (14 : Int32) = 6 by decide), if_neg (show ¬ (14 : Int32) = 7 by decide), if_neg (show ¬ (14 : Int32) = 8 by decide), if_neg (show ¬ (14 : Int32) = 9 by decide), if_neg (show ¬ (14 : Int32) = 10 by decide), if_neg (show ¬ (14 : Int32) = 11 by decide), if_neg (show ¬ (14 : Int32) = 12 by decide), if_neg (show ¬ (14 : Int32) = 13 by decide), if_pos rfl])
theorem VC_16 (h : Rel x σ) (hσ : σ 0 = g) (hI : IG g ns nb nr nv)  : fX10_count x 16 = some (-1) := by
  obtain ⟨⟨h0, h1, h2, h3, hs6, hb16, hr8, hv2⟩, ⟨tm, h4, ht⟩, ⟨⟨t5, h5, ht5⟩, ⟨t6, h6, ht6, ht6b⟩, ⟨t7, h7, ht7⟩⟩, hpl, hdk, hbc, hrd, hvn, hzS, hzB, hzR, hzV⟩ := id hI
  exact re_c h (by rw [fX11_count, if_neg (show ¬ (16 : Int32) = 0 by decide), if_neg (show ¬ (16 : Int32) = 1 by decide), if_neg (show ¬ (16 : Int32) = 2 by decide), if_neg (show ¬ (16 : Int32) = 3 by decide), if_neg (show ¬ (16 : Int32) = 4 by decide), if_neg (show ¬ (16 : Int32) = 5 by decide), if_neg (show ¬ (16 : Int32) = 6 by decide), if_neg (show ¬ (16 : Int32) = 7 by decide), if_neg (show ¬ (16 : Int32) = 8 by decide), if_neg (show ¬ (16 : Int32) = 9 by decide), if_neg (show ¬ (16 : Int32) = 10 by decide), if_neg (show ¬ (16 : Int32) = 11 by decide), if_neg (show ¬ (16 : Int32) = 12 by decide), if_neg (show ¬ (16 : Int32) = 13 by decide), if_neg (show ¬ (16 : Int32) = 14 by decide), if_neg (show ¬ (16 : Int32) = 15 by decide), M_in0 (by decide), bd_s, if_pos rfl])
theorem VC_23 (h : Rel x σ) (hσ : σ 0 = g) (hI : IG g ns nb nr nv)  : fX10_count x 23 = some (-1) := by
  obtain ⟨⟨h0, h1, h2, h3, hs6, hb16, hr8, hv2⟩, ⟨tm, h4, ht⟩, ⟨⟨t5, h5, ht5⟩, ⟨t6, h6, ht6, ht6b⟩, ⟨t7, h7, ht7⟩⟩, hpl, hdk, hbc, hrd, hvn, hzS, hzB, hzR, hzV⟩ := id hI
  exact re_c h (by rw [fX11_count, if_neg (show ¬ (23 : Int32) = 0 by decide), if_neg (show ¬ (23 : Int32) = 1 by decide), if_neg (show ¬ (23 : Int32) = 2 by decide), if_neg (show ¬ (23 : Int32) = 3 by decide), if_neg (show ¬ (23 : Int32) = 4 by decide), if_neg (show ¬ (23 : Int32) = 5 by decide), if_neg (show ¬ (23 : Int32) = 6 by decide), if_neg (show ¬ (23 : Int32) = 7 by decide), if_neg (show ¬ (23 : Int32) = 8 by decide), if_neg (show ¬ (23 : Int32) = 9 by decide), if_neg (show ¬ (23 : Int32) = 10 by decide), if_neg (show ¬ (23 : Int32) = 11 by decide), if_neg (show ¬ (23 : Int32) = 12 by decide), if_neg (show ¬ (23 : Int32) = 13 by decide), if_neg (show ¬ (23 : Int32) = 14 by decide), if_neg (show ¬ (23 : Int32) = 15 by decide), M_in1 (by decide) (by decide), bd_s, if_pos rfl])
theorem VC_20 (h : Rel x σ) (hσ : σ 0 = g) (hI : IG g ns nb nr nv)  : fX10_count x 20 = some (g 5) := by
  obtain ⟨⟨h0, h1, h2, h3, hs6, hb16, hr8, hv2⟩, ⟨tm, h4, ht⟩, ⟨⟨t5, h5, ht5⟩, ⟨t6, h6, ht6, ht6b⟩, ⟨t7, h7, ht7⟩⟩, hpl, hdk, hbc, hrd, hvn, hzS, hzB, hzR, hzV⟩ := id hI
  exact re_c h (by rw [fX11_count, if_neg (show ¬ (20 : Int32) = 0 by decide), if_neg (show ¬ (20 : Int32) = 1 by decide), if_neg (show ¬ (20 : Int32) = 2 by decide), if_neg (show ¬ (20 : Int32) = 3 by decide), if_neg (show ¬ (20 : Int32) = 4 by decide), if_neg (show ¬ (20 : Int32) = 5 by decide), if_neg (show ¬ (20 : Int32) = 6 by decide), if_neg (show ¬ (20 : Int32) = 7 by decide), if_neg (show ¬ (20 : Int32) = 8 by decide), if_neg (show ¬ (20 : Int32) = 9 by decide), if_neg (show ¬ (20 : Int32) = 10 by decide), if_neg (show ¬ (20 : Int32) = 11 by decide), if_neg (show ¬ (20 : Int32) = 12 by decide), if_neg (show ¬ (20 : Int32) = 13 by decide), if_neg (show ¬ (20 : Int32) = 14 by decide), if_neg (show ¬ (20 : Int32) = 15 by decide), M_in2 (by decide) (by decide), bd_s, if_neg ne10, show (5 : Int32) + 20 - 20 = nI 5 by decide, gi_nI (by decide) (by decide), cl_nI (by decide), hσ])
theorem VC_21 (h : Rel x σ) (hσ : σ 0 = g) (hI : IG g ns nb nr nv)  : fX10_count x 21 = some (g 6) := by
  obtain ⟨⟨h0, h1, h2, h3, hs6, hb16, hr8, hv2⟩, ⟨tm, h4, ht⟩, ⟨⟨t5, h5, ht5⟩, ⟨t6, h6, ht6, ht6b⟩, ⟨t7, h7, ht7⟩⟩, hpl, hdk, hbc, hrd, hvn, hzS, hzB, hzR, hzV⟩ := id hI
  exact re_c h (by rw [fX11_count, if_neg (show ¬ (21 : Int32) = 0 by decide), if_neg (show ¬ (21 : Int32) = 1 by decide), if_neg (show ¬ (21 : Int32) = 2 by decide), if_neg (show ¬ (21 : Int32) = 3 by decide), if_neg (show ¬ (21 : Int32) = 4 by decide), if_neg (show ¬ (21 : Int32) = 5 by decide), if_neg (show ¬ (21 : Int32) = 6 by decide), if_neg (show ¬ (21 : Int32) = 7 by decide), if_neg (show ¬ (21 : Int32) = 8 by decide), if_neg (show ¬ (21 : Int32) = 9 by decide), if_neg (show ¬ (21 : Int32) = 10 by decide), if_neg (show ¬ (21 : Int32) = 11 by decide), if_neg (show ¬ (21 : Int32) = 12 by decide), if_neg (show ¬ (21 : Int32) = 13 by decide), if_neg (show ¬ (21 : Int32) = 14 by decide), if_neg (show ¬ (21 : Int32) = 15 by decide), M_in2 (by decide) (by decide), bd_s, if_neg ne10, show (5 : Int32) + 21 - 20 = nI 6 by decide, gi_nI (by decide) (by decide), cl_nI (by decide), hσ])
theorem VC_22 (h : Rel x σ) (hσ : σ 0 = g) (hI : IG g ns nb nr nv)  : fX10_count x 22 = some (g 7) := by
  obtain ⟨⟨h0, h1, h2, h3, hs6, hb16, hr8, hv2⟩, ⟨tm, h4, ht⟩, ⟨⟨t5, h5, ht5⟩, ⟨t6, h6, ht6, ht6b⟩, ⟨t7, h7, ht7⟩⟩, hpl, hdk, hbc, hrd, hvn, hzS, hzB, hzR, hzV⟩ := id hI
  exact re_c h (by rw [fX11_count, if_neg (show ¬ (22 : Int32) = 0 by decide), if_neg (show ¬ (22 : Int32) = 1 by decide), if_neg (show ¬ (22 : Int32) = 2 by decide), if_neg (show ¬ (22 : Int32) = 3 by decide), if_neg (show ¬ (22 : Int32) = 4 by decide), if_neg (show ¬ (22 : Int32) = 5 by decide), if_neg (show ¬ (22 : Int32) = 6 by decide), if_neg (show ¬ (22 : Int32) = 7 by decide), if_neg (show ¬ (22 : Int32) = 8 by decide), if_neg (show ¬ (22 : Int32) = 9 by decide), if_neg (show ¬ (22 : Int32) = 10 by decide), if_neg (show ¬ (22 : Int32) = 11 by decide), if_neg (show ¬ (22 : Int32) = 12 by decide), if_neg (show ¬ (22 : Int32) = 13 by decide), if_neg (show ¬ (22 : Int32) = 14 by decide), if_neg (show ¬ (22 : Int32) = 15 by decide), M_in2 (by decide) (by decide), bd_s, if_neg ne10, show (5 : Int32) + 22 - 20 = nI 7 by decide, gi_nI (by decide) (by decide), cl_nI (by decide), hσ])
end V9
theorem sh_1 : ∀ n, n < 16 → (1 : Int32) <<< (nI n &&& 31) = nI (2 ^ n) := by decide +kernel
theorem or_a {m n : Nat} (hm : m < 2 ^ n) (hn : n < 16) : nI m ||| nI (2 ^ n) = nI (m + 2 ^ n) := by
  have h1 : 2 ^ n ≤ 2 ^ 15 := Nat.pow_le_pow_right (by decide) (by omega)
  have h2 : (2 : Nat) ^ 15 = 32768 := by decide
  refine Int32.toBitVec_inj.mp (BitVec.eq_of_toNat_eq ?_)
  rw [Int32.toBitVec_or, BitVec.toNat_or, pk_tn (by omega), pk_tn (by omega), pk_tn (by omega)]
  have h := Nat.shiftLeft_add_eq_or_of_lt hm 1
  rw [Nat.one_shiftLeft] at h
  rw [Nat.or_comm, ← h, Nat.add_comm]
theorem ts_nat {g : T1} {st wh : Int32} : ∀ n, n ≤ 16 → ∃ m, m < 2 ^ n ∧ ts g st wh n = nI m
  | 0, _ => ⟨0, by decide, rfl⟩
  | n + 1, h => by
    obtain ⟨m, h1, h2⟩ := ts_nat (g := g) (st := st) (wh := wh) n (by omega)
    have hp : 2 ^ (n + 1) = 2 ^ n + 2 ^ n := by rw [Nat.pow_succ]; omega
    rw [ts, h2]
    by_cases c : g (32 + 6 * n) = st ∧ g (32 + 6 * n + 1) = wh
    · rw [if_pos c, sh_1 n (by omega), or_a h1 (by omega)]
      exact ⟨m + 2 ^ n, by omega, rfl⟩
    · rw [if_neg c, or_0]
      exact ⟨m, by omega, rfl⟩
theorem ts_st {g : T1} {st wh : Int32} {n : Nat} (hn : n < 16) : ts g st wh n + (if g (32 + 6 * n) = st ∧ g (32 + 6 * n + 1) = wh then (1 : Int32) <<< (nI n &&& 31) else 0) = ts g st wh (n + 1) := by
  obtain ⟨m, h1, h2⟩ := ts_nat (g := g) (st := st) (wh := wh) n (by omega)
  rw [ts, h2]
  by_cases c : g (32 + 6 * n) = st ∧ g (32 + 6 * n + 1) = wh
  · rw [if_pos c, sh_1 n hn, or_a h1 hn, nI_add]
  · rw [if_neg c, or_0, Int32.add_zero]
