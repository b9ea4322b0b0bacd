/-! LAW 8: report, set, acts -/
section B8
variable {T : Nat} {G P B D R Q V : T1} {x : T5} {σ : T2}
theorem lJ.mono {T T' : Nat} (h : lJ T G P B D R Q V x σ) (hT : T ≤ T') : lJ T' G P B D R Q V x σ := by
  obtain ⟨a, b, c, d, t, e, f⟩ := h
  exact ⟨a, b, c, d, t, e, by omega⟩
theorem L_flt {g : T1} {nb : Nat} {p8 v11 : Int32} (hL : LR G P B D R Q V g) (h1 : g 1 = nI nb) (hb16 : nb ≤ 16) : ∀ (n j : Nat) (acc : Int32), j ≤ nb → nb - j < n → acc = cf g j → fL_acts_342 p8 n G P B D R Q V x v11 acc (nI j) = bd (fX10_report x v11) (fun q => if q.1 = cf g nb then (some ((1 : Int32), G, P, B, D, R, Q, V, q.2)) else (some ((0 : Int32), G, P, B, D, R, Q, V, q.2))) := by
  intro n
  induction n with
  | zero => intro j acc e1 e2; omega
  | succ n ih =>
    intro j acc e1 e2 e3
    rw [fL_acts_342, ct1, hL.G1, h1]
    by_cases hj : j = nb
    · subst hj
      rw [if_pos (nI_le (Nat.le_refl _) (by omega)), e3]
    · rw [if_neg (nI_ge (by omega) (by omega)), mu3, gi_nI (by omega) (by decide), cl_nI (by omega), hL.D0 (by omega), bn_s, nI_1]
      exact ih (j + 1) _ (by omega) (by omega) (by rw [e3, cf])
theorem A_rep (hJ : lJ T G P B D R Q V x σ) {y : Nat} {p8 : Int32} (hy : y < 10000000) (hz1 : ¬ G 1 = 0) : ∃ (D' : T1) (x' : T5) (σ' : T2), nz (G 1) (bn (nI y - nI y / G 1 * G 1) (fun x288 => gi ((3 : Int32) * x288) 48 (if (1 : Int32) < B ((3 : Int32) * x288).toNatClampNeg then (fL_acts_311 p8 G P B D R Q V x x288) else (gi ((3 : Int32) * x288) 48 (if D ((3 : Int32) * x288).toNatClampNeg = 1 then (fL_acts_311 p8 G P B D R Q V x x288) else (gi ((3 : Int32) * x288) 48 (bn (sU D ((3 : Int32) * x288).toNatClampNeg (1 : Int32)) (fun S4_335 => fL_acts_342 p8 fuel G P B S4_335 R Q V x x288 0 0)))))))) = some (1, G, P, B, D', R, Q, V, x') ∧ lJ T G P B D' R Q V x' σ' := by
  obtain ⟨hRel, hL, hN, hB, t, htt, htT⟩ := id hJ
  obtain ⟨⟨⟨ns, nb, nr, nv, hI⟩, -⟩, -⟩ := id hRel
  obtain ⟨⟨h0, h1, h2, h3, hs6, hb16, hr8, hv2⟩, ⟨tm, h4, ht⟩, ⟨⟨t5, h5, ht5⟩, ⟨t6, h6, ht6, ht6b⟩, ⟨t7, h7, ht7⟩⟩, hpl, hdk, hbc, hrd, hvn, hzS, hzB, hzR, hzV⟩ := id hI
  have hn1 : 0 < nb := Nat.pos_of_ne_zero (fun e => hz1 (by rw [hL.G1, h1, e]; rfl))
  obtain ⟨b, hb, eb⟩ : ∃ b, b < nb ∧ y % nb = b := ⟨_, Nat.mod_lt _ hn1, rfl⟩
  have bad : ∀ x', fX10_report x (nI b) = some (-2, x') → fL_acts_311 p8 G P B D R Q V x (nI b) = some (1, G, P, B, D, R, Q, V, x') := fun x' e => by
    rw [fL_acts_311, e, bd_s]
    exact if_pos rfl
  rw [hL.G1, h1, nz_s (nI_ne0 hn1 (by omega)), pk_rem (by omega) hn1 (by omega), eb, bn_s, mu3, gi_nI (by omega) (by decide), cl_nI (by omega), hL.B0 (by omega)]
  by_cases c1 : (1 : Int32) < σ 0 (32 + 6 * b)
  · obtain ⟨x', σ', e1, hJ'⟩ := hJ.e (E_report_f hRel rfl hI hb (Or.inl c1))
    rw [if_pos c1]
    exact ⟨D, x', σ', bad _ e1, hJ'⟩
  rw [if_neg c1, gi_nI (by omega) (by decide), hL.D0 (by omega)]
  by_cases c2 : σ 0 (32 + 6 * b + 3) = 1
  · obtain ⟨x', σ', e1, hJ'⟩ := hJ.e (E_report_f hRel rfl hI hb (Or.inr c2))
    rw [if_pos c2]
    exact ⟨D, x', σ', bad _ e1, hJ'⟩
  have hl := lr_D0 (k := b) (v := 1) hL (by omega)
  obtain ⟨x', σ', e1, hJ'⟩ := hJ.of (E_report hRel rfl hI hb c1 c2) hl (bg_same hB (by simp (disch := omega) only [sU_n]) (by simp (disch := omega) only [sU_n]) (fun k hk => by simp (disch := omega) only [sU_n]) (fun k hk => by constructor <;> simp (disch := omega) only [sU_n])) ⟨t, by simp (disch := omega) only [sU_n]; exact htt, htT⟩
  rw [if_neg c2, gi_nI (by omega) (by decide), bn_s]
  refine ⟨_, x', σ', ?_, hJ'⟩
  refine (L_flt hl (show _ = nI nb by simp (disch := omega) only [sU_n]; exact h1) hb16 fuel 0 0 (Nat.zero_le _) (by unfold fuel; omega) rfl).trans ?_
  rw [e1, bd_s]
  exact if_pos rfl
theorem A_set0 (hJ : lJ T G P B D R Q V x σ) {a : Nat} {p8 : Int32} (ha : a ≤ 99) : ∃ (G' : T1) (x' : T5) (σ' : T2), fL_acts_458 p8 G P B D R Q V x (nI 0) (G 5) (nI 5) (nI a) = some (1, G', P, B, D, R, Q, V, x') ∧ lJ T G' P B D R Q V x' σ' := by
  obtain ⟨hRel, hL, hN, hB, t, htt, htT⟩ := id hJ
  obtain ⟨⟨⟨ns, nb, nr, nv, hI⟩, -⟩, -⟩ := id hRel
  obtain ⟨⟨h0, h1, h2, h3, hs6, hb16, hr8, hv2⟩, ⟨tm, h4, ht⟩, ⟨⟨t5, h5, ht5⟩, ⟨t6, h6, ht6, ht6b⟩, ⟨t7, h7, ht7⟩⟩, hpl, hdk, hbc, hrd, hvn, hzS, hzB, hzR, hzV⟩ := id hI
  obtain ⟨x', σ', e1, hJ'⟩ := hJ.of (E_set0 hRel rfl hI ha) (lr_G (i := 5) hL (by decide)) (bg_same hB (by simp (disch := omega) only [sU_n]) (by simp (disch := omega) only [sU_n]) (fun k hk => by simp (disch := omega) only [sU_n]) (fun k hk => by constructor <;> simp (disch := omega) only [sU_n])) ⟨t, by simp (disch := omega) only [sU_n]; exact htt, htT⟩
  refine ⟨_, x', σ', ?_, hJ'⟩
  rw [fL_acts_458, gi_nI (by decide) (by decide), cl_nI (by decide), bn_s, lq5, gi_nI (by decide) (by decide), cl_nI (by decide), sU_s, e1, bd_s]
  exact if_pos hL.G5.symm
theorem A_set1 (hJ : lJ T G P B D R Q V x σ) {a : Nat} {p8 : Int32} (ha : 1 ≤ a) (ha2 : a ≤ 999) : ∃ (G' : T1) (x' : T5) (σ' : T2), fL_acts_458 p8 G P B D R Q V x (nI 1) (G 6) (nI 6) (nI a) = some (1, G', P, B, D, R, Q, V, x') ∧ lJ T G' P B D R Q V x' σ' := by
  obtain ⟨hRel, hL, hN, hB, t, htt, htT⟩ := id hJ
  obtain ⟨⟨⟨ns, nb, nr, nv, hI⟩, -⟩, -⟩ := id hRel
  obtain ⟨⟨h0, h1, h2, h3, hs6, hb16, hr8, hv2⟩, ⟨tm, h4, ht⟩, ⟨⟨t5, h5, ht5⟩, ⟨t6, h6, ht6, ht6b⟩, ⟨t7, h7, ht7⟩⟩, hpl, hdk, hbc, hrd, hvn, hzS, hzB, hzR, hzV⟩ := id hI
  obtain ⟨x', σ', e1, hJ'⟩ := hJ.of (E_set1 hRel rfl hI ha ha2) (lr_G (i := 6) hL (by decide)) (bg_same hB (by simp (disch := omega) only [sU_n]) (by simp (disch := omega) only [sU_n]) (fun k hk => by simp (disch := omega) only [sU_n]) (fun k hk => by constructor <;> simp (disch := omega) only [sU_n])) ⟨t, by simp (disch := omega) only [sU_n]; exact htt, htT⟩
  refine ⟨_, x', σ', ?_, hJ'⟩
  rw [fL_acts_458, gi_nI (by decide) (by decide), cl_nI (by decide), bn_s, lq5, gi_nI (by decide) (by decide), cl_nI (by decide), sU_s, e1, bd_s]
  exact if_pos hL.G6.symm
theorem A_set2 (hJ : lJ T G P B D R Q V x σ) {a : Nat} {p8 : Int32} (ha : a ≤ 999) : ∃ (G' : T1) (x' : T5) (σ' : T2), fL_acts_458 p8 G P B D R Q V x (nI 2) (G 7) (nI 7) (nI a) = some (1, G', P, B, D, R, Q, V, x') ∧ lJ T G' P B D R Q V x' σ' := by
  obtain ⟨hRel, hL, hN, hB, t, htt, htT⟩ := id hJ
  obtain ⟨⟨⟨ns, nb, nr, nv, hI⟩, -⟩, -⟩ := id hRel
  obtain ⟨⟨h0, h1, h2, h3, hs6, hb16, hr8, hv2⟩, ⟨tm, h4, ht⟩, ⟨⟨t5, h5, ht5⟩, ⟨t6, h6, ht6, ht6b⟩, ⟨t7, h7, ht7⟩⟩, hpl, hdk, hbc, hrd, hvn, hzS, hzB, hzR, hzV⟩ := id hI
  obtain ⟨x', σ', e1, hJ'⟩ := hJ.of (E_set2 hRel rfl hI ha) (lr_G (i := 7) hL (by decide)) (bg_same hB (by simp (disch := omega) only [sU_n]) (by simp (disch := omega) only [sU_n]) (fun k hk => by simp (disch := omega) only [sU_n]) (fun k hk => by constructor <;> simp (disch := omega) only [sU_n])) ⟨t, by simp (disch := omega) only [sU_n]; exact htt, htT⟩
  refine ⟨_, x', σ', ?_, hJ'⟩
  rw [fL_acts_458, gi_nI (by decide) (by decide), cl_nI (by decide), bn_s, lq5, gi_nI (by decide) (by decide), cl_nI (by decide), sU_s, e1, bd_s]
  exact if_pos hL.G7.symm
/-- what an act ends in -/
def lAC (T : Nat) (G P B D R Q V : T1) (x : T5) (X : Option (Int32 × T1 × T1 × T1 × T1 × T1 × T1 × T1 × T5)) : Prop := ∃ (G' P' B' D' R' Q' V' : T1) (x' : T5) (σ' : T2), X = some (1, G', P', B', D', R', Q', V', x') ∧ lJ T G' P' B' D' R' Q' V' x' σ'
theorem gz_1 {β : Type} {X : Option β} : gz 1 X = X := if_pos (Or.inr rfl)
theorem ac_br {X : Option (Int32 × T1 × T1 × T1 × T1 × T1 × T5)} (h : ∃ (G' P' B' R' V' : T1) (x' : T5) (σ' : T2), X = some (1, G', P', B', R', V', x') ∧ lJ T G' P' B' D R' Q V' x' σ') : lAC T G P B D R Q V x (bd X (fun q => gz q.1 (some (q.1, q.2.1, q.2.2.1, q.2.2.2.1, D, q.2.2.2.2.1, Q, q.2.2.2.2.2.1, q.2.2.2.2.2.2)))) := by
  obtain ⟨G', P', B', R', V', x', σ', e1, e2⟩ := h
  rw [e1, bd_s]
  exact ⟨G', P', B', D, R', Q, V', x', σ', gz_1, e2⟩
theorem ac_ri {X : Option (Int32 × T1 × T1 × T1 × T1 × T1 × T5)} (h : ∃ (P' B' D' R' Q' : T1) (x' : T5) (σ' : T2), X = some (1, P', B', D', R', Q', x') ∧ lJ T G P' B' D' R' Q' V x' σ') : lAC T G P B D R Q V x (bd X (fun q => gz q.1 (some (q.1, G, q.2.1, q.2.2.1, q.2.2.2.1, q.2.2.2.2.1, q.2.2.2.2.2.1, V, q.2.2.2.2.2.2)))) := by
  obtain ⟨P', B', D', R', Q', x', σ', e1, e2⟩ := h
  rw [e1, bd_s]
  exact ⟨G, P', B', D', R', Q', V, x', σ', gz_1, e2⟩
theorem ac_dr {X : Option (Int32 × T1 × T1 × T1 × T5)} (h : ∃ (B' D' V' : T1) (x' : T5) (σ' : T2), X = some (1, B', D', V', x') ∧ lJ T G P B' D' R Q V' x' σ') : lAC T G P B D R Q V x (bd X (fun q => gz q.1 (some (q.1, G, P, q.2.1, q.2.2.1, R, Q, q.2.2.2.1, q.2.2.2.2)))) := by
  obtain ⟨B', D', V', x', σ', e1, e2⟩ := h
  rw [e1, bd_s]
  exact ⟨G, P, B', D', R, Q, V', x', σ', gz_1, e2⟩
theorem ac_pa {X : Option (Int32 × T1 × T1 × T1 × T5)} (h : ∃ (G' B' D' : T1) (x' : T5) (σ' : T2), X = some (1, G', B', D', x') ∧ lJ T G' P B' D' R Q V x' σ') : lAC T G P B D R Q V x (bd X (fun q => gz q.1 (some (q.1, q.2.1, P, q.2.2.1, q.2.2.2.1, R, Q, V, q.2.2.2.2)))) := by
  obtain ⟨G', B', D', x', σ', e1, e2⟩ := h
  rw [e1, bd_s]
  exact ⟨G', P, B', D', R, Q, V, x', σ', gz_1, e2⟩
theorem ac_se {X : Option (Int32 × T1 × T1 × T1 × T1 × T1 × T1 × T1 × T5)} (h : ∃ (G' : T1) (x' : T5) (σ' : T2), X = some (1, G', P, B, D, R, Q, V, x') ∧ lJ T G' P B D R Q V x' σ') : lAC T G P B D R Q V x X := by
  obtain ⟨G', x', σ', e1, e2⟩ := h
  exact ⟨G', P, B, D, R, Q, V, x', σ', e1, e2⟩
theorem lAC.mono {T T' : Nat} {X : Option (Int32 × T1 × T1 × T1 × T1 × T1 × T1 × T1 × T5)} (h : lAC T G P B D R Q V x X) (hT : T ≤ T') : lAC T' G P B D R Q V x X := by
  obtain ⟨G', P', B', D', R', Q', V', x', σ', e1, e2⟩ := h
  exact ⟨G', P', B', D', R', Q', V', x', σ', e1, e2.mono hT⟩
theorem eqI {w n : Nat} (hw : w < 2 ^ 31) (hn : n < 2 ^ 31) : (nI w = nI n) ↔ w = n := nI_eq hw hn
set_option maxHeartbeats 4000000 in
theorem A_acts (hJ : lJ T G P B D R Q V x σ) (z : Int32) {w : Nat} (hw : w = z.toBitVec.toNat % 2 ^ 31 % 30) (hT : w < 23 ∨ T + 120 ≤ 9000) : lAC (if w < 23 then T else T + 120) G P B D R Q V x (fL_acts G P B D R Q V x z) := by
  obtain ⟨y, hy, ey⟩ := low_e (z >>> (5 &&& 31)) (n := 10000000) (by decide) (by decide)
  have ew : fL_low z 30 = some (nI w) := by rw [hw]; exact low_s z (n := 30) (by decide) (by decide)
  have hw30 : w < 30 := by rw [hw]; exact Nat.mod_lt _ (by decide)
  have up : ∀ {X : Option (Int32 × T1 × T1 × T1 × T1 × T1 × T1 × T1 × T5)}, lAC T G P B D R Q V x X → lAC (if w < 23 then T else T + 120) G P B D R Q V x X := fun h => h.mono (by split <;> omega)
  rw [fL_acts, show fL_low (z >>> (5 &&& 31)) 10000000 = some (nI y) from ey, bd_s, ew, bd_s, ct0, ct1, ct2, ct3]
  have b0 : lAC T G P B D R Q V x (fL_acts_31 z G P B D R Q V x (nI y)) := ac_br (A_brings0 hJ hy)
  by_cases c0 : nI w = 0
  · rw [if_pos c0]; exact up b0
  rw [if_neg c0]
  by_cases c1 : G 0 = 0
  · rw [if_pos c1]; exact up b0
  rw [if_neg c1]
  have b1 : lAC T G P B D R Q V x (fL_acts_62 z G P B D R Q V x (nI y)) := ac_br (A_brings1 hJ hy c1)
  by_cases c2 : nI w < 5
  · rw [if_pos c2]; exact up b1
  rw [if_neg c2]
  by_cases c3 : G 1 = 0
  · rw [if_pos c3]; exact up b1
  rw [if_neg c3]
  have b2 : lAC T G P B D R Q V x (fL_acts_93 z G P B D R Q V x (nI y)) := ac_br (A_brings2 hJ hy)
  by_cases c4 : nI w = 5
  · rw [if_pos c4]; exact up b2
  rw [if_neg c4]
  by_cases c5 : G 2 = 0
  · rw [if_pos c5]; exact up b2
  rw [if_neg c5]
  have b3 : lAC T G P B D R Q V x (fL_acts_125 z G P B D R Q V x (nI y)) := ac_br (A_brings3 hJ hy c1)
  by_cases c6 : nI w = 6
  · rw [if_pos c6]; exact up b3
  rw [if_neg c6]
  by_cases c7 : G 3 = 0
  · rw [if_pos c7]; exact up b3
  rw [if_neg c7]
  by_cases c8 : (16 : Int32) ≤ nI w
  case neg =>
    rw [if_neg c8]
    by_cases d1 : nI w = 7
    · rw [if_pos d1]; exact up (ac_ri (A_rides0 hJ hy c1 c5))
    rw [if_neg d1]
    by_cases d2 : (11 : Int32) ≤ nI w
    · rw [if_pos d2]
      by_cases d3 : (14 : Int32) ≤ nI w
      · rw [if_pos d3]; exact up (ac_ri (A_rides3 hJ hy c1 c5))
      · rw [if_neg d3]; exact up (ac_ri (A_rides2 hJ hy c1 c5))
    · rw [if_neg d2]; exact up (ac_ri (A_rides1 hJ hy c1 c5))
  rw [if_pos c8]
  by_cases c9 : (23 : Int32) ≤ nI w
  case neg =>
    rw [if_neg c9]
    by_cases d1 : (18 : Int32) ≤ nI w
    · rw [if_pos d1]
      by_cases d2 : nI w = 18
      · rw [if_pos d2]; exact up (ac_dr (A_drives1 hJ hy c3 c7))
      · rw [if_neg d2]
        by_cases d3 : (21 : Int32) ≤ nI w
        · rw [if_pos d3]; exact up (ac_dr (A_drives3 hJ hy c3 c7))
        · rw [if_neg d3]; exact up (ac_dr (A_drives2 hJ hy c3 c7))
    · rw [if_neg d1]; exact up (ac_dr (A_drives0 hJ hy c3 c7))
  rw [if_pos c9]
  have hw23 : ¬ w < 23 := by
    have := (nI_leI (a := 23) (by decide) (by omega)).mp c9
    omega
  by_cases c10 : (27 : Int32) ≤ nI w
  case neg =>
    rw [if_neg c10, if_neg hw23]
    exact ac_pa (A_pauses hJ hy (hT.resolve_left hw23))
  rw [if_pos c10]
  by_cases c11 : (29 : Int32) ≤ nI w
  case neg =>
    rw [if_neg c11]
    obtain ⟨D', x', σ', e1, e2⟩ := A_rep (p8 := z) hJ hy c3
    exact up ⟨G, P, B, D', R, Q, V, x', σ', e1, e2⟩
  rw [if_pos c11]
  refine up (ac_se ?_)
  have e3 : nI y - nI y / 3 * 3 = nI (y % 3) := pk_rem (d := 3) (by omega) (by decide) (by decide)
  have e33 : nI y / 3 = nI (y / 3) := pk_div (d := 3) (by omega) (by decide) (by decide)
  have e2 : nI y - nI y / 2 * 2 = nI (y % 2) := pk_rem (d := 2) (by omega) (by decide) (by decide)
  have f1 : nI (y / 3) - nI (y / 3) / 100 * 100 = nI (y / 3 % 100) := pk_rem (d := 100) (by omega) (by decide) (by decide)
  have f2 : nI (y / 3) - nI (y / 3) / 1000 * 1000 = nI (y / 3 % 1000) := pk_rem (d := 1000) (by omega) (by decide) (by decide)
  rw [e3, e2, e33, f1, f2]
  rcases (show y % 3 = 0 ∨ y % 3 = 1 ∨ y % 3 = 2 by omega) with h | h | h
  · rw [h, lq5, gi_nI (by decide) (by decide), cl_nI (by decide), bn_s, if_pos (show nI 0 = 0 from rfl)]
    exact A_set0 hJ (by omega)
  · rw [h, lq5, gi_nI (by decide) (by decide), cl_nI (by decide), bn_s, if_neg (show ¬ nI 1 = 0 by decide), if_pos (show nI 1 = 1 from rfl)]
    have key : ∀ d : Nat, 1 ≤ d → d ≤ 999 → ∃ (G' : T1) (x' : T5) (σ' : T2), fL_acts_445 z G P B D R Q V x (nI 1) (G 6) (nI 6) 1 (nI (y / 3)) (nI d) = some (1, G', P, B, D, R, Q, V, x') ∧ lJ T G' P B D R Q V x' σ' := fun d hd hd2 => by
      have hlt : y / 3 % d < d := Nat.mod_lt _ hd
      rw [fL_acts_445, nz_s (nI_ne0 hd (by omega)), pk_rem (by omega) hd (by omega), lq1]
      exact A_set1 hJ (by omega) (by omega)
    by_cases c : nI (y % 2) = 0
    · rw [if_pos c]
      exact key 30 (by decide) (by decide)
    · rw [if_neg c]
      exact key 999 (by decide) (by decide)
  · rw [h, lq5, gi_nI (by decide) (by decide), cl_nI (by decide), bn_s, if_neg (show ¬ nI 2 = 0 by decide), if_neg (show ¬ nI 2 = 1 by decide)]
    exact A_set2 hJ (by omega)
end B8
