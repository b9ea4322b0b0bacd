/-! LAW 6: drives -/
section B6
variable {T : Nat} {G P B D R Q V : T1} {x : T5} {σ : T2}
theorem L_drv_lp {g : T1} {nb v y : Nat} {p6 : Int32} (hL : LR G P B D R Q V g) (h1 : g 1 = nI nb) (hb16 : nb ≤ 16) : ∀ (n j b : Nat), j ≤ nb → nb - j < n → b < nb → ∃ b', b' < nb ∧ fL_drives_21 G P p6 (nI y) n B D V x (nI v) (nI b) (nI j) = fL_drives_79 G P p6 (nI y) B D V x (nI v) (nI b') := by
  intro n
  induction n with
  | zero => intro j b e1 e2; omega
  | succ n ih =>
    intro j b e1 e2 hb
    rw [fL_drives_21, ct1, hL.G1, h1]
    by_cases hj : j = nb
    · rw [if_pos (nI_le (by omega) (by omega))]
      exact ⟨b, hb, rfl⟩
    rw [if_neg (nI_ge (by omega) (by omega))]
    by_cases c1 : nI y - nI y / 3 * 3 ≤ 0
    · rw [if_pos c1]
      exact ⟨b, hb, rfl⟩
    rw [if_neg c1]
    obtain ⟨b1, f1, f2⟩ := ih (j + 1) b (by omega) (by omega) hb
    have keep : fL_drives_69 (fL_drives_21 G P p6 (nI y) n) G P p6 (nI y) B D V x (nI v) (nI b) (nI j) = fL_drives_79 G P p6 (nI y) B D V x (nI v) (nI b1) := by
      unfold fL_drives_69 fL_drives_71
      rw [nI_1]
      exact f2
    by_cases c2 : p6 ≤ 0
    · rw [if_pos c2]
      exact ⟨b1, f1, keep⟩
    rw [if_neg c2, mu3, gi_nI (by omega) (by decide), cl_nI (by omega)]
    by_cases c3 : B (3 * j) = 2
    case neg =>
      rw [if_neg c3]
      exact ⟨b1, f1, keep⟩
    rw [if_pos c3, nI_1, gi_nI (by omega) (by decide), cl_nI (by omega)]
    by_cases c4 : B (3 * j + 1) = nI v
    case neg =>
      rw [if_neg c4]
      exact ⟨b1, f1, keep⟩
    rw [if_pos c4]
    obtain ⟨b2, f3, f4⟩ := ih (j + 1) j (by omega) (by omega) (by omega)
    refine ⟨b2, f3, ?_⟩
    unfold fL_drives_71
    rw [nI_1]
    exact f4
theorem L_drv {g : T1} {ns nb nr nv y : Nat} {p6 : Int32} (hL : LR G P B D R Q V g) (hI : IG g ns nb nr nv) (hy : y < 10000000) (hv0 : 0 < nv) (hb0 : 0 < nb) : ∃ v b, v < nv ∧ b < nb ∧ fL_drives G P B D V x p6 (nI y) = fL_drives_129 G P p6 (nI y) B D V x (nI v) (nI b) (if uw g v = 0 then 1 else 0) (atN g b 2 (nI v)) := by
  obtain ⟨⟨h0, h1, h2, h3, hs6, hb16, hr8, hv2⟩, ⟨tm, h4, ht⟩, ⟨⟨t5, h5, ht5⟩, ⟨t6, h6, ht6, ht6b⟩, ⟨t7, h7, ht7⟩⟩, hpl, hdk, hbc, hrd, hvn, hzS, hzB, hzR, hzV⟩ := id hI
  have eb : nI y / 2 = nI (y / 2) := pk_div (d := 2) (by omega) (by decide) (by decide)
  obtain ⟨v, hv, ev⟩ : ∃ v, v < nv ∧ y % nv = v := ⟨_, Nat.mod_lt _ hv0, rfl⟩
  rw [fL_drives, ct3, hL.G3, h3, nz_s (nI_ne0 hv0 (by omega)), pk_rem (by omega) hv0 (by omega), ev, bn_s, ct1, hL.G1, h1, nz_s (nI_ne0 hb0 (by omega)), eb, pk_rem (by omega) hb0 (by omega), bn_s]
  obtain ⟨b, hb, e⟩ := L_drv_lp (x := x) (v := v) (y := y) (p6 := p6) hL h1 hb16 fuel 0 (y / 2 % nb) (by omega) (by unfold fuel; omega) (Nat.mod_lt _ hb0)
  refine ⟨v, b, hv, hb, e.trans ?_⟩
  have st : ∀ t : Int32, fL_drives_99 G P p6 (nI y) B D V x (nI v) (nI b) t = fL_drives_129 G P p6 (nI y) B D V x (nI v) (nI b) t (atN g b 2 (nI v)) := fun t => by
    unfold fL_drives_99 fL_drives_128 atN
    rw [mu3, gi_nI (by omega) (by decide), cl_nI (by omega), hL.B0 (by omega)]
    by_cases c1 : g (32 + 6 * b) = 2
    · rw [if_pos c1, nI_1, gi_nI (by omega) (by decide), cl_nI (by omega), hL.B1 (by omega)]
      by_cases c2 : g (32 + 6 * b + 1) = nI v
      · rw [if_pos c2, if_pos ⟨c1, c2⟩]
      · rw [if_neg c2, if_neg (fun q => c2 q.2)]
    · rw [if_neg c1, if_neg (fun q => c1 q.1)]
  unfold fL_drives_79 uw
  rw [mu3, pl2, gi_nI (by omega) (by decide), cl_nI (by omega), hL.V2 (by omega), ct4, hL.G4]
  by_cases c : g 4 < g (200 + 3 * v + 2)
  · rw [if_pos c, if_neg (show ¬ g (200 + 3 * v + 2) ≤ g 4 from lt_nle c), if_neg ne10, st]
  · rw [if_neg c, if_pos (nlt_le c), if_pos rfl, st]
set_option maxHeartbeats 4000000 in
theorem A_drives0 (hJ : lJ T G P B D R Q V x σ) {y : Nat} (hy : y < 10000000) (hz1 : ¬ G 1 = 0) (hz3 : ¬ G 3 = 0) : ∃ (B' D' V' : T1) (x' : T5) (σ' : T2), fL_drives G P B D V x 0 (nI y) = some (1, B', D', V', x') ∧ lJ T G P B' D' R Q V' x' σ' := by
  obtain ⟨hRel, hL, hN, hB, t, htt, htT⟩ := id hJ
  obtain ⟨⟨⟨ns, nb, nr, nv, hI⟩, -⟩, -⟩ := id hRel
  obtain ⟨⟨h0, h1, h2, h3, hs6, hb16, hr8, hv2⟩, ⟨tm, h4, ht⟩, ⟨⟨t5, h5, ht5⟩, ⟨t6, h6, ht6, ht6b⟩, ⟨t7, h7, ht7⟩⟩, hpl, hdk, hbc, hrd, hvn, hzS, hzB, hzR, hzV⟩ := id hI
  have hn1 : 0 < nb := Nat.pos_of_ne_zero (fun e => hz1 (by rw [hL.G1, h1, e]; rfl))
  have hn3 : 0 < nv := Nat.pos_of_ne_zero (fun e => hz3 (by rw [hL.G3, h3, e]; rfl))
  obtain ⟨v, b, hv, hb, e⟩ := L_drv (x := x) (p6 := 0) hL hI hy hn3 hn1
  obtain ⟨⟨j, hj, ej⟩, m, hm, hm2, hm3⟩ := hvn v hv
  have hcb := cw_le (σ 0) 2 (nI v) nb
  rw [e]
  have bad : ∀ x', fX10_take x (nI v) (nI b) = some (-2, x') → fL_drives_187 G P 0 (nI y) B D V x (nI v) (nI b) = some (1, B, D, V, x') := fun x' e => by
    rw [fL_drives_187, e, bd_s]
    exact if_pos rfl
  rw [fL_drives_129, if_pos rfl]
  by_cases c1 : uw (σ 0) v = 0
  case neg =>
    obtain ⟨x', σ', e1, hJ'⟩ := hJ.e (E_take_f hRel rfl hI hv hb ej hj hm hm2 (Or.inl c1))
    rw [if_neg c1, if_pos rfl]
    exact ⟨B, D, V, x', σ', bad _ e1, hJ'⟩
  rw [if_pos c1, if_neg ne10, L_carried hL h1 hb16, bd_s, mu3, nI_1, gi_nI (by omega) (by decide), cl_nI (by omega), hL.V1 (by omega), hm]
  by_cases c2 : cw (σ 0) 2 (nI v) nb = m
  · obtain ⟨x', σ', e1, hJ'⟩ := hJ.e (E_take_f hRel rfl hI hv hb ej hj hm hm2 (Or.inr (Or.inl c2)))
    rw [if_pos (by rw [c2]; exact nI_le (Nat.le_refl _) (by omega))]
    exact ⟨B, D, V, x', σ', bad _ e1, hJ'⟩
  rw [if_neg (nI_ge (by omega) (by omega)), mu3, gi_nI (by omega) (by decide), cl_nI (by omega), hL.B0 (by omega)]
  by_cases c3 : σ 0 (32 + 6 * b) = 0
  case neg =>
    obtain ⟨x', σ', e1, hJ'⟩ := hJ.e (E_take_f hRel rfl hI hv hb ej hj hm hm2 (Or.inr (Or.inr (if_neg (fun q => c3 q.1)))))
    rw [if_neg c3]
    exact ⟨B, D, V, x', σ', bad _ e1, hJ'⟩
  rw [if_pos c3, nI_1, gi_nI (by omega) (by decide), gi_nI (by omega) (by decide), cl_nI (by omega), cl_nI (by omega), hL.B1 (by omega), hL.V0 (by omega), ej]
  by_cases c4 : σ 0 (32 + 6 * b + 1) = nI j
  case neg =>
    obtain ⟨x', σ', e1, hJ'⟩ := hJ.e (E_take_f hRel rfl hI hv hb ej hj hm hm2 (Or.inr (Or.inr (if_neg (fun q => c4 q.2)))))
    rw [if_neg c4]
    exact ⟨B, D, V, x', σ', bad _ e1, hJ'⟩
  have hl := lr_B1 (k := b) (v := nI v) (lr_B0 (k := b) (v := 2) hL (by omega)) (by omega)
  obtain ⟨x', σ', e1, hJ'⟩ := hJ.of (E_take hRel rfl hI hv hb ej hj hm hm2 c1 c2 (fun q => by unfold atN at q; rw [if_pos ⟨c3, c4⟩] at q; exact ne10 q)) hl (bg_same hB (by simp (disch := omega) only [sU_n]) (by simp (disch := omega) only [sU_n]) (fun k hk => by simp (disch := omega) only [sU_n]) (fun k hk => by constructor <;> simp (disch := omega) only [sU_n])) ⟨t, by simp (disch := omega) only [sU_n]; exact htt, htT⟩
  rw [if_pos c4]
  simp (disch := omega) only [bd_s, bn_s, gi_nI, cl_nI, sU_s, sU_n, mu3, mu4, mu5, nI_1, pl2, pl3, pl4, nI_pred, ct0, ct1, ct2, ct3, ct4, e1, L_carried hl (show _ = nI nb by simp (disch := omega) only [sU_n]; exact h1) hb16]
  exact ⟨_, D, V, x', σ', (by first | exact if_pos rfl | exact if_pos trivial), hJ'⟩
set_option maxHeartbeats 4000000 in
theorem A_drives1 (hJ : lJ T G P B D R Q V x σ) {y : Nat} (hy : y < 10000000) (hz1 : ¬ G 1 = 0) (hz3 : ¬ G 3 = 0) : ∃ (B' D' V' : T1) (x' : T5) (σ' : T2), fL_drives G P B D V x 1 (nI y) = some (1, B', D', V', x') ∧ lJ T G P B' D' R Q V' x' σ' := by
  obtain ⟨hRel, hL, hN, hB, t, htt, htT⟩ := id hJ
  obtain ⟨⟨⟨ns, nb, nr, nv, hI⟩, -⟩, -⟩ := id hRel
  obtain ⟨⟨h0, h1, h2, h3, hs6, hb16, hr8, hv2⟩, ⟨tm, h4, ht⟩, ⟨⟨t5, h5, ht5⟩, ⟨t6, h6, ht6, ht6b⟩, ⟨t7, h7, ht7⟩⟩, hpl, hdk, hbc, hrd, hvn, hzS, hzB, hzR, hzV⟩ := id hI
  have hn1 : 0 < nb := Nat.pos_of_ne_zero (fun e => hz1 (by rw [hL.G1, h1, e]; rfl))
  have hn3 : 0 < nv := Nat.pos_of_ne_zero (fun e => hz3 (by rw [hL.G3, h3, e]; rfl))
  obtain ⟨v, b, hv, hb, e⟩ := L_drv (x := x) (p6 := 1) hL hI hy hn3 hn1
  obtain ⟨⟨j, hj, ej⟩, m, hm, hm2, hm3⟩ := hvn v hv
  rw [e]
  have bad : ∀ x', fX10_put x (nI v) (nI b) = some (-2, x') → fL_drives_279 G P 1 (nI y) B D V x (nI v) (nI b) = some (1, B, D, V, x') := fun x' e => by
    rw [fL_drives_279, e, bd_s]
    exact if_pos rfl
  rw [fL_drives_129, if_neg ne10, if_pos rfl]
  by_cases c1 : uw (σ 0) v = 0
  case neg =>
    obtain ⟨x', σ', e1, hJ'⟩ := hJ.e (E_put_f hRel rfl hI hv hb ej hj (Or.inl c1))
    rw [if_neg c1, if_pos rfl]
    exact ⟨B, D, V, x', σ', bad _ e1, hJ'⟩
  rw [if_pos c1, if_neg ne10]
  by_cases c2 : atN (σ 0) b 2 (nI v) = 0
  · obtain ⟨x', σ', e1, hJ'⟩ := hJ.e (E_put_f hRel rfl hI hv hb ej hj (Or.inr (Or.inl c2)))
    rw [if_pos c2]
    exact ⟨B, D, V, x', σ', bad _ e1, hJ'⟩
  rw [if_neg c2, mu3, gi_nI (by omega) (by decide), cl_nI (by omega), hL.V0 (by omega), ej, L_free hL hI hj, bd_s]
  by_cases c3 : fr (σ 0) nb j = 0
  · obtain ⟨x', σ', e1, hJ'⟩ := hJ.e (E_put_f hRel rfl hI hv hb ej hj (Or.inr (Or.inr c3)))
    rw [if_pos c3]
    exact ⟨B, D, V, x', σ', bad _ e1, hJ'⟩
  have hl := lr_B1 (k := b) (v := nI j) (lr_B0 (k := b) (v := 0) hL (by omega)) (by omega)
  obtain ⟨x', σ', e1, hJ'⟩ := hJ.of (E_put hRel rfl hI hv hb ej hj c1 c2 c3) hl (bg_same hB (by simp (disch := omega) only [sU_n]) (by simp (disch := omega) only [sU_n]) (fun k hk => by simp (disch := omega) only [sU_n]) (fun k hk => by constructor <;> simp (disch := omega) only [sU_n])) ⟨t, by simp (disch := omega) only [sU_n]; exact htt, htT⟩
  rw [if_neg c3]
  simp (disch := omega) only [bd_s, bn_s, gi_nI, cl_nI, sU_s, sU_n, mu3, mu4, mu5, nI_1, pl2, pl3, pl4, nI_pred, ct0, ct1, ct2, ct3, ct4, e1, L_carried hl (show _ = nI nb by simp (disch := omega) only [sU_n]; exact h1) hb16]
  exact ⟨_, D, V, x', σ', (by first | exact if_pos rfl | exact if_pos trivial), hJ'⟩
set_option maxHeartbeats 4000000 in
theorem A_drives2 (hJ : lJ T G P B D R Q V x σ) {y : Nat} (hy : y < 10000000) (hz1 : ¬ G 1 = 0) (hz3 : ¬ G 3 = 0) : ∃ (B' D' V' : T1) (x' : T5) (σ' : T2), fL_drives G P B D V x 2 (nI y) = some (1, B', D', V', x') ∧ lJ T G P B' D' R Q V' x' σ' := by
  obtain ⟨hRel, hL, hN, hB, t, htt, htT⟩ := id hJ
  obtain ⟨⟨⟨ns, nb, nr, nv, hI⟩, -⟩, -⟩ := id hRel
  obtain ⟨⟨h0, h1, h2, h3, hs6, hb16, hr8, hv2⟩, ⟨tm, h4, ht⟩, ⟨⟨t5, h5, ht5⟩, ⟨t6, h6, ht6, ht6b⟩, ⟨t7, h7, ht7⟩⟩, hpl, hdk, hbc, hrd, hvn, hzS, hzB, hzR, hzV⟩ := id hI
  have hn1 : 0 < nb := Nat.pos_of_ne_zero (fun e => hz1 (by rw [hL.G1, h1, e]; rfl))
  have hn3 : 0 < nv := Nat.pos_of_ne_zero (fun e => hz3 (by rw [hL.G3, h3, e]; rfl))
  obtain ⟨v, b, hv, hb, e⟩ := L_drv (x := x) (p6 := 2) hL hI hy hn3 hn1
  obtain ⟨⟨j, hj, ej⟩, m, hm, hm2, hm3⟩ := hvn v hv
  rw [e]
  have bad : ∀ x', fX10_mend x (nI v) (nI b) = some (-2, x') → fL_drives_370 G P 2 (nI y) B D V x (nI v) (nI b) = some (1, B, D, V, x') := fun x' e => by
    rw [fL_drives_370, e, bd_s]
    exact if_pos rfl
  rw [fL_drives_129, if_neg (by decide), if_neg (by decide), if_pos rfl]
  by_cases c1 : uw (σ 0) v = 0
  case neg =>
    obtain ⟨x', σ', e1, hJ'⟩ := hJ.e (E_mend_f hRel rfl hI hv hb ej hj (Or.inl c1))
    rw [if_neg c1, if_pos rfl]
    exact ⟨B, D, V, x', σ', bad _ e1, hJ'⟩
  rw [if_pos c1, if_neg ne10]
  by_cases c2 : atN (σ 0) b 2 (nI v) = 0
  · obtain ⟨x', σ', e1, hJ'⟩ := hJ.e (E_mend_f hRel rfl hI hv hb ej hj (Or.inr (Or.inr c2)))
    rw [if_pos c2]
    exact ⟨B, D, V, x', σ', bad _ e1, hJ'⟩
  rw [if_neg c2, mu3, gi_nI (by omega) (by decide), cl_nI (by omega), hL.V0 (by omega), ej]
  by_cases c3 : j = 0
  case neg =>
    obtain ⟨x', σ', e1, hJ'⟩ := hJ.e (E_mend_f hRel rfl hI hv hb ej hj (Or.inr (Or.inl c3)))
    rw [if_neg (nI_nle (by omega) (by omega))]
    exact ⟨B, D, V, x', σ', bad _ e1, hJ'⟩
  have hl := lr_D2 (k := b) (v := nI (tm + t6)) (lr_B1 (k := b) (v := -4) (lr_B0 (k := b) (v := 3) hL (by omega)) (by omega)) (by omega)
  obtain ⟨x', σ', e1, hJ'⟩ := hJ.of (E_mend hRel rfl hI hv hb ej hj h4 h6 c1 c3 c2) hl (bg_same hB (by simp (disch := omega) only [sU_n]) (by simp (disch := omega) only [sU_n]) (fun k hk => by simp (disch := omega) only [sU_n]) (fun k hk => by constructor <;> simp (disch := omega) only [sU_n])) ⟨t, by simp (disch := omega) only [sU_n]; exact htt, htT⟩
  have c6 : (6 : Int32).toNatClampNeg = 6 := by decide
  have e46 : nI tm + nI t6 = nI (tm + t6) := nI_add _ _
  rw [if_pos (by rw [c3]; decide)]
  simp (disch := omega) only [bd_s, bn_s, gi_nI, cl_nI, sU_s, sU_n, mu3, mu4, mu5, nI_1, pl2, pl3, pl4, nI_pred, ct0, ct1, ct2, ct3, ct4, c6, hL.G4, hL.G6, h4, h6, e46, e1]
  exact ⟨_, _, V, x', σ', (by first | exact if_pos rfl | exact if_pos trivial), hJ'⟩
set_option maxHeartbeats 4000000 in
theorem A_drives3 (hJ : lJ T G P B D R Q V x σ) {y : Nat} (hy : y < 10000000) (hz1 : ¬ G 1 = 0) (hz3 : ¬ G 3 = 0) : ∃ (B' D' V' : T1) (x' : T5) (σ' : T2), fL_drives G P B D V x 3 (nI y) = some (1, B', D', V', x') ∧ lJ T G P B' D' R Q V' x' σ' := by
  obtain ⟨hRel, hL, hN, hB, t, htt, htT⟩ := id hJ
  obtain ⟨⟨⟨ns, nb, nr, nv, hI⟩, -⟩, -⟩ := id hRel
  obtain ⟨⟨h0, h1, h2, h3, hs6, hb16, hr8, hv2⟩, ⟨tm, h4, ht⟩, ⟨⟨t5, h5, ht5⟩, ⟨t6, h6, ht6, ht6b⟩, ⟨t7, h7, ht7⟩⟩, hpl, hdk, hbc, hrd, hvn, hzS, hzB, hzR, hzV⟩ := id hI
  have hn1 : 0 < nb := Nat.pos_of_ne_zero (fun e => hz1 (by rw [hL.G1, h1, e]; rfl))
  have hn3 : 0 < nv := Nat.pos_of_ne_zero (fun e => hz3 (by rw [hL.G3, h3, e]; rfl))
  obtain ⟨v, b, hv, hb, e⟩ := L_drv (x := x) (p6 := 3) hL hI hy hn3 hn1
  obtain ⟨⟨j, hj, ej⟩, m, hm, hm2, hm3⟩ := hvn v hv
  have hn : 0 < ns := by omega
  rw [e]
  have key : ∀ k, k < ns → ∃ (B' D' V' : T1) (x' : T5) (σ' : T2), fL_drives_469 G P 3 (nI y) B D V x (nI v) (if uw (σ 0) v = 0 then 1 else 0) (nI k) = some (1, B', D', V', x') ∧ lJ T G P B' D' R Q V' x' σ' := fun k hk => by
    have bad : ∀ x', fX10_go x (nI v) (nI k) = some (-2, x') → fL_drives_488 G P 3 (nI y) B D V x (nI v) (nI k) = some (1, B, D, V, x') := fun x' e => by
      rw [fL_drives_488, e, bd_s]
      first | exact if_pos rfl | exact if_pos trivial
    rw [fL_drives_469]
    by_cases c1 : uw (σ 0) v = 0
    case neg =>
      obtain ⟨x', σ', e1, hJ'⟩ := hJ.e (E_go_f hRel rfl hI hv hk ej hj (Or.inl c1))
      rw [if_neg c1, if_pos rfl]
      exact ⟨B, D, V, x', σ', bad _ e1, hJ'⟩
    rw [if_pos c1, if_neg ne10, mu3, gi_nI (by omega) (by decide), cl_nI (by omega), hL.V0 (by omega), ej]
    by_cases c2 : j = k
    · obtain ⟨x', σ', e1, hJ'⟩ := hJ.e (E_go_f hRel rfl hI hv hk ej hj (Or.inr c2))
      rw [if_pos (by rw [c2])]
      exact ⟨B, D, V, x', σ', bad _ e1, hJ'⟩
    obtain ⟨x0, hx, hx2⟩ := hpl j hj
    obtain ⟨y0, hy0, hy2⟩ := hpl k hk
    obtain ⟨w, hw⟩ : ∃ w, w = (if y0 ≤ x0 then x0 - y0 else y0 - x0) := ⟨_, rfl⟩
    have hw2 : w ≤ 99 := by rw [hw]; split <;> omega
    obtain ⟨x', σ', e1, hJ'⟩ := hJ.of (E_go hRel rfl hI hv hk ej hj h4 hx hy0 hx2 hy2 hw c1 c2) (lr_V0 (lr_V2 hL (by omega)) (by omega)) (bg_same hB (by simp (disch := omega) only [sU_n]) (by simp (disch := omega) only [sU_n]) (fun k hk => by simp (disch := omega) only [sU_n]) (fun k hk => by constructor <;> simp (disch := omega) only [sU_n])) ⟨t, by simp (disch := omega) only [sU_n]; exact htt, htT⟩
    have ew : nI w / 2 = nI (w / 2) := pk_div (d := 2) (by omega) (by decide) (by decide)
    have ew2 : nI (tm + 1) + nI (w / 2) = nI (tm + w / 2 + 1) := by rw [nI_add]; exact congrArg nI (by omega)
    rw [if_neg (fun q => c2 ((nI_eq (by omega) (by omega)).mp q)), gi_nI (by omega) (by decide), L_way hL (by omega) (by omega) hx hy0 hx2 hy2, ← hw, bd_s]
    simp (disch := omega) only [bd_s, bn_s, gi_nI, cl_nI, sU_s, sU_n, mu3, mu4, mu5, nI_1, pl2, pl3, pl4, nI_pred, ct0, ct1, ct2, ct3, ct4, hL.G4, h4, ew, ew2, e1]
    exact ⟨B, D, _, x', σ', (by first | exact if_pos rfl | exact if_pos trivial), hJ'⟩
  rw [fL_drives_129, if_neg (by decide), if_neg (by decide), if_neg (by decide)]
  by_cases c : nI y - nI y / 2 * 2 = 0
  · rw [if_pos c]
    exact key 0 hn
  · rw [if_neg c, ct0, hL.G0, h0, nz_s (nI_ne0 hn (by omega)), show nI y / 32 = nI (y / 32) from pk_div (d := 32) (by omega) (by decide) (by decide), pk_rem (by omega) hn (by omega)]
    exact key _ (Nat.mod_lt _ hn)
end B6
