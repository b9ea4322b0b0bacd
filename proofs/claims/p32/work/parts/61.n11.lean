/-! LAW 11: isSo -/
section B11
variable {T : Nat} {G P B D R Q V : T1} {x : T5} {σ : T2}
theorem L_set1 {g : T1} {ns nb nr nv k : Nat} {K : T5 → Int32 → Int32 → Int32 → Option (Int32 × T5)} {v9 : Int32} (hL : LR G P B D R Q V g) (hI : IG g ns nb nr nv) : ∀ (n j : Nat), j ≤ nb → nb - j < n → ∃ n', fL_isSo_79 K G P B D R Q V n x v9 (nI k) (ts g 0 (nI k) j) (nI j) = fL_isSo_79 K G P B D R Q V (n' + 1) x v9 (nI k) (ts g 0 (nI k) nb) (nI nb) := by
  obtain ⟨⟨h0, h1, h2, h3, hs6, hb16, hr8, hv2⟩, ⟨tm, h4, ht⟩, ⟨⟨t5, h5, ht5⟩, ⟨t6, h6, ht6, ht6b⟩, ⟨t7, h7, ht7⟩⟩, hpl, hdk, hbc, hrd, hvn, hzS, hzB, hzR, hzV⟩ := id hI
  intro n
  induction n with
  | zero => intro j e1 e2; omega
  | succ n ih =>
    intro j e1 e2
    by_cases hj : j = nb
    · subst hj
      exact ⟨n, rfl⟩
    obtain ⟨n', hn⟩ := ih (j + 1) (by omega) (by omega)
    refine ⟨n', Eq.trans ?_ hn⟩
    have e := ts_st (g := g) (st := 0) (wh := nI k) (n := j) (by omega)
    have no : ¬ (g (32 + 6 * j) = 0 ∧ g (32 + 6 * j + 1) = nI k) → fL_isSo_118 K (fL_isSo_79 K G P B D R Q V n) G P B D R Q V x v9 (nI k) (nI j) (ts g 0 (nI k) j) = fL_isSo_79 K G P B D R Q V n x v9 (nI k) (ts g 0 (nI k) (j + 1)) (nI (j + 1)) := fun c => by
      rw [if_neg c] at e
      unfold fL_isSo_118 fL_isSo_119
      rw [nI_1, e]
    rw [fL_isSo_79, ct1, hL.G1, h1, if_neg (nI_ge (by omega) (by omega)), mu3, gi_nI (by omega) (by decide), cl_nI (by omega), hL.B0 (by omega)]
    by_cases c1 : g (32 + 6 * j) = 0
    · rw [if_pos c1, nI_1, gi_nI (by omega) (by decide), cl_nI (by omega), hL.B1 (by omega)]
      by_cases c2 : g (32 + 6 * j + 1) = nI k
      · rw [if_pos c2]
        rw [if_pos ⟨c1, c2⟩] at e
        unfold fL_isSo_119
        rw [nI_1, e]
      · rw [if_neg c2]
        exact no (fun q => c2 q.2)
    · rw [if_neg c1]
      exact no (fun q => c1 q.1)
theorem L_set2 {g : T1} {ns nb nr nv k : Nat} {K : T5 → Int32 → Int32 → Int32 → Option (Int32 × T5)} {v9 : Int32} (hL : LR G P B D R Q V g) (hI : IG g ns nb nr nv) : ∀ (n j : Nat), j ≤ nb → nb - j < n → ∃ n', fL_isSo_271 K G P B D R Q V n x v9 (nI k) (ts g 2 (nI k) j) (nI j) = fL_isSo_271 K G P B D R Q V (n' + 1) x v9 (nI k) (ts g 2 (nI k) nb) (nI nb) := by
  obtain ⟨⟨h0, h1, h2, h3, hs6, hb16, hr8, hv2⟩, ⟨tm, h4, ht⟩, ⟨⟨t5, h5, ht5⟩, ⟨t6, h6, ht6, ht6b⟩, ⟨t7, h7, ht7⟩⟩, hpl, hdk, hbc, hrd, hvn, hzS, hzB, hzR, hzV⟩ := id hI
  intro n
  induction n with
  | zero => intro j e1 e2; omega
  | succ n ih =>
    intro j e1 e2
    by_cases hj : j = nb
    · subst hj
      exact ⟨n, rfl⟩
    obtain ⟨n', hn⟩ := ih (j + 1) (by omega) (by omega)
    refine ⟨n', Eq.trans ?_ hn⟩
    have e := ts_st (g := g) (st := 2) (wh := nI k) (n := j) (by omega)
    have no : ¬ (g (32 + 6 * j) = 2 ∧ g (32 + 6 * j + 1) = nI k) → fL_isSo_311 K (fL_isSo_271 K G P B D R Q V n) G P B D R Q V x v9 (nI k) (nI j) (ts g 2 (nI k) j) = fL_isSo_271 K G P B D R Q V n x v9 (nI k) (ts g 2 (nI k) (j + 1)) (nI (j + 1)) := fun c => by
      rw [if_neg c] at e
      unfold fL_isSo_311 fL_isSo_312
      rw [nI_1, e]
    rw [fL_isSo_271, ct1, hL.G1, h1, if_neg (nI_ge (by omega) (by omega)), mu3, gi_nI (by omega) (by decide), cl_nI (by omega), hL.B0 (by omega)]
    by_cases c1 : g (32 + 6 * j) = 2
    · rw [if_pos c1, nI_1, gi_nI (by omega) (by decide), cl_nI (by omega), hL.B1 (by omega)]
      by_cases c2 : g (32 + 6 * j + 1) = nI k
      · rw [if_pos c2]
        rw [if_pos ⟨c1, c2⟩] at e
        unfold fL_isSo_312
        rw [nI_1, e]
      · rw [if_neg c2]
        exact no (fun q => c2 q.2)
    · rw [if_neg c1]
      exact no (fun q => c1 q.1)
theorem A_cnt {g : T1} {ns nb nr nv : Nat} (h : Rel x σ) (hσ : σ 0 = g) (hN : σ 6 3 = 0) (hL : LR G P B D R Q V g) (hI : IG g ns nb nr nv) : fL_isSo_435 G P B D R Q V x 1 (sm (fun k => g (8 + 4 * k + 1)) ns) = some (1, x) := by
  obtain ⟨⟨h0, h1, h2, h3, hs6, hb16, hr8, hv2⟩, ⟨tm, h4, ht⟩, ⟨⟨t5, h5, ht5⟩, ⟨t6, h6, ht6, ht6b⟩, ⟨t7, h7, ht7⟩⟩, hpl, hdk, hbc, hrd, hvn, hzS, hzB, hzR, hzV⟩ := id hI
  have hend : fL_isSo_475 G P B D R Q V x 1 (sm (fun k => g (8 + 4 * k + 1)) ns) = some (1, x) := by
    rw [fL_isSo_475, if_neg ne10, VC_10 h hσ hI, bd_s, if_pos rfl, VC_14 h hσ hI, bd_s, if_pos hN, VC_20 h hσ hI, bd_s, ct5, hL.G5, if_pos rfl, VC_21 h hσ hI, bd_s, ct6, hL.G6, if_pos rfl, VC_22 h hσ hI, bd_s, ct7, hL.G7, if_pos rfl]
  have st : ∀ (n j : Nat), j < 5 → fX10_count x (nI j) = some (g j) → fL_isSo_438 G P B D R Q V (n + 1) x 1 (sm (fun k => g (8 + 4 * k + 1)) ns) (nI j) = fL_isSo_438 G P B D R Q V n x 1 (sm (fun k => g (8 + 4 * k + 1)) ns) (nI (j + 1)) := fun n j hj e => by
    rw [fL_isSo_438, if_neg (show ¬ (5 : Int32) ≤ nI j from nI_ge (a := j) (b := 5) hj (by decide)), if_neg ne10, e, bd_s, gi_nI (by omega) (by decide), cl_nI (by omega), hL.1 j (by omega), if_pos rfl]
    unfold fL_isSo_467
    rw [nI_1]
  unfold fL_isSo_435
  show fL_isSo_438 G P B D R Q V (4091 + 1 + 1 + 1 + 1 + 1) x 1 _ (nI 0) = _
  rw [st _ 0 (by decide) (VC_0 h hσ hI), st _ 1 (by decide) (VC_1 h hσ hI), st _ 2 (by decide) (VC_2 h hσ hI), st _ 3 (by decide) (VC_3 h hσ hI), st _ 4 (by decide) (VC_4 h hσ hI)]
  show fL_isSo_438 G P B D R Q V (4090 + 1) x 1 _ (nI 5) = _
  rw [fL_isSo_438, if_pos (show (5 : Int32) ≤ nI 5 by decide)]
  exact hend
theorem A_van {g : T1} {ns nb nr nv : Nat} (h : Rel x σ) (hσ : σ 0 = g) (hN : σ 6 3 = 0) (hL : LR G P B D R Q V g) (hI : IG g ns nb nr nv) : ∀ (n j : Nat), j ≤ nv → nv - j < n → fL_isSo_252 G P B D R Q V n x 1 (sm (fun k => g (8 + 4 * k + 1)) ns) (nI j) = some (1, x) := by
  obtain ⟨⟨h0, h1, h2, h3, hs6, hb16, hr8, hv2⟩, ⟨tm, h4, ht⟩, ⟨⟨t5, h5, ht5⟩, ⟨t6, h6, ht6, ht6b⟩, ⟨t7, h7, ht7⟩⟩, hpl, hdk, hbc, hrd, hvn, hzS, hzB, hzR, hzV⟩ := id hI
  intro n
  induction n with
  | zero => intro j e1 e2; omega
  | succ n ih =>
    intro j e1 e2
    rw [fL_isSo_252, ct3, hL.G3, h3]
    by_cases hj : j = nv
    · subst hj
      rw [if_pos (nI_le (Nat.le_refl _) (by omega))]
      exact A_cnt h hσ hN hL hI
    have hk : j < nv := by omega
    have hk2 : j < 2 := by omega
    have en : fL_isSo_427 (fL_isSo_252 G P B D R Q V n) G P B D R Q V x (sm (fun k => g (8 + 4 * k + 1)) ns) (nI j) 1 = some (1, x) := by
      unfold fL_isSo_427
      rw [nI_1]
      exact ih (j + 1) (by omega) (by omega)
    obtain ⟨n', hn⟩ := L_set2 (x := x) (k := j) (K := fL_isSo_252 G P B D R Q V n) (v9 := sm (fun k => g (8 + 4 * k + 1)) ns) hL hI fuel 0 (Nat.zero_le _) (by unfold fuel; omega)
    rw [if_neg (nI_ge (by omega) (by omega)), if_neg ne10]
    refine Eq.trans hn ?_
    have en4 : ∀ t : Int32, fL_isSo_408 (fL_isSo_252 G P B D R Q V n) G P B D R Q V x (sm (fun k => g (8 + 4 * k + 1)) ns) (nI j) t t = some (1, x) := fun t => by
      rw [fL_isSo_408, if_pos rfl, VV_4 h hσ hI hk, bd_s, if_pos rfl]
      exact en
    rw [fL_isSo_271, ct1, hL.G1, h1, if_pos (nI_le (Nat.le_refl _) (by omega)), VV_0 h hσ hI hk, bd_s, mu3, gi_nI (by omega) (by decide), cl_nI (by omega), hL.V0 hk2, if_pos rfl, VV_1 h hσ hI hk, bd_s, nI_1, gi_nI (by omega) (by decide), cl_nI (by omega), hL.V1 hk2, if_pos rfl, VV_2 h hσ hI hk, bd_s, if_pos rfl, ct4, hL.G4]
    by_cases c : g (200 + 3 * j + 2) ≤ g 4
    · rw [VV_3a h hσ hI hk c, bd_s, pl2, gi_nI (by omega) (by decide), cl_nI (by omega), hL.V2 hk2, if_pos c]
      exact en4 0
    · rw [VV_3b h hσ hI hk c, bd_s, pl2, gi_nI (by omega) (by decide), cl_nI (by omega), hL.V2 hk2, if_neg c, gi_nI (by omega) (by decide)]
      exact en4 _
theorem A_sta {g : T1} {ns nb nr nv : Nat} (hσ : σ 0 = g) (hN : σ 6 3 = 0) (hL : LR G P B D R Q V g) (hI : IG g ns nb nr nv) : ∀ (n j : Nat) (x : T5), Rel x σ → j ≤ ns → ns - j < n → ∃ x', fL_isSo_60 G P B D R Q V n x 1 (sm (fun k => g (8 + 4 * k + 1)) j) (nI j) = some (1, x') ∧ Rel x' σ := by
  obtain ⟨⟨h0, h1, h2, h3, hs6, hb16, hr8, hv2⟩, ⟨tm, h4, ht⟩, ⟨⟨t5, h5, ht5⟩, ⟨t6, h6, ht6, ht6b⟩, ⟨t7, h7, ht7⟩⟩, hpl, hdk, hbc, hrd, hvn, hzS, hzB, hzR, hzV⟩ := id hI
  intro n
  induction n with
  | zero => intro j x hx e1 e2; omega
  | succ n ih =>
    intro j x hx e1 e2
    rw [fL_isSo_60, ct0, hL.G0, h0]
    by_cases hj : j = ns
    · subst hj
      rw [if_pos (nI_le (Nat.le_refl _) (by omega))]
      unfold fL_isSo_249
      exact ⟨x, A_van hx hσ hN hL hI fuel 0 (Nat.zero_le _) (by unfold fuel; omega), hx⟩
    have hk : j < ns := by omega
    have hk6 : j < 6 := by omega
    obtain ⟨n', hn⟩ := L_set1 (x := x) (k := j) (K := fL_isSo_60 G P B D R Q V n) (v9 := sm (fun k => g (8 + 4 * k + 1)) j) hL hI fuel 0 (Nat.zero_le _) (by unfold fuel; omega)
    obtain ⟨x1, a1, b1⟩ := VS_0 hx hσ hI hk
    obtain ⟨x2, a2, b2⟩ := VS_1 b1 hσ hI hk
    obtain ⟨x3, a3, b3⟩ := VS_2 b2 hσ hI hk
    obtain ⟨x4, a4, b4⟩ := VS_5 b3 hσ hI hk
    obtain ⟨x5, a5, b5⟩ := VS_6 b4 hσ hI hk
    obtain ⟨x6, a6, b6⟩ := VS_7 b5 hσ hI hk
    obtain ⟨x', e3, e4⟩ := ih (j + 1) x6 b6 (by omega) (by omega)
    refine ⟨x', ?_, e4⟩
    rw [if_neg (nI_ge (by omega) (by omega)), if_neg ne10]
    refine Eq.trans hn ?_
    rw [fL_isSo_79, ct1, hL.G1, h1, if_pos (nI_le (Nat.le_refl _) (by omega)), mu4, nI_1, gi_nI (by omega) (by decide), cl_nI (by omega), hL.P1 hk6, bn_s, a1, bd_s, gi_nI (by omega) (by decide), cl_nI (by omega), hL.P0 hk6, if_pos rfl, a2, bd_s, gi_nI (by omega) (by decide), if_pos rfl, a3, bd_s, if_pos rfl, a4, bd_s, pl2, gi_nI (by omega) (by decide), cl_nI (by omega), hL.P2 hk6, if_pos rfl, a5, bd_s, pl3, gi_nI (by omega) (by decide), cl_nI (by omega), hL.P3 hk6, if_pos rfl, a6, bd_s, if_pos rfl]
    unfold fL_isSo_241
    rw [nI_1]
    exact e3
theorem A_isSo (hJ : lJ T G P B D R Q V x σ) : ∃ x', fL_isSo G P B D R Q V x = some (1, x') ∧ lJ T G P B D R Q V x' σ := by
  obtain ⟨hRel, hL, hN, hB, t, htt, htT⟩ := id hJ
  obtain ⟨⟨⟨ns, nb, nr, nv, hI⟩, -⟩, -⟩ := id hRel
  obtain ⟨⟨h0, h1, h2, h3, hs6, hb16, hr8, hv2⟩, ⟨tm, h4, ht⟩, ⟨⟨t5, h5, ht5⟩, ⟨t6, h6, ht6, ht6b⟩, ⟨t7, h7, ht7⟩⟩, hpl, hdk, hbc, hrd, hvn, hzS, hzB, hzR, hzV⟩ := id hI
  obtain ⟨ns', nr', w1, w2, w3, w4, hB'⟩ := id hB
  have en : ns' = ns := (nI_eq (by omega) (by omega)).mp (w1.symm.trans h0)
  have en2 : nr' = nr := (nI_eq (by omega) (by omega)).mp (w2.symm.trans h2)
  subst en
  subst en2
  obtain ⟨x1, e1, f1⟩ := A_areR hRel rfl hL hI hB'
  obtain ⟨x2, e2, f2⟩ := VS_n f1 rfl hI
  obtain ⟨x3, e3, f3⟩ := A_sta (G := G) (P := P) (B := B) (D := D) (R := R) (Q := Q) (V := V) rfl hN hL hI fuel 0 x2 f2 (Nat.zero_le _) (by unfold fuel; omega)
  refine ⟨x3, ?_, f3, hL, hN, hB, t, htt, htT⟩
  rw [fL_isSo, A_areB hRel rfl hL hI, bd_s, if_neg ne10, e1, bd_s, if_neg (show ¬ ((1, x1) : Int32 × T5).1 = 0 from ne10), ct0, hL.G0, h0, e2, bd_s, if_pos rfl, ct3, hL.G3, h3, VV_n f2 rfl hI, bd_s, if_pos rfl]
  exact e3
end B11
