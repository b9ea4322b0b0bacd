/-! LAW 7: pauses -/
section B7
variable {T : Nat} {G P B D R Q V : T1} {x : T5} {σ : T2}
def lon (n : Nat) : Option Nat → Nat
  | none => n
  | some s => s
theorem L_ff {ns nb nr nv : Nat} {g : T1} {K27 : T1 → T1 → T1 → T5 → Int32 → Int32 → Int32 → Option (Int32 × T1 × T1 × T1 × T5)} {K44 : T1 → T1 → T1 → T5 → Int32 → Int32 → Int32 → Int32 → Option (Int32 × T1 × T1 × T1 × T5)} {p5 v6 v7 v8 v9 : Int32} (hL : LR G P B D R Q V g) (hI : IG g ns nb nr nv) : ∀ (n k : Nat), k ≤ ns → ns - k < n → fL_pauses_100 K27 K44 P p5 n G B D x v6 v7 v8 v9 (nI k) = fL_pauses_125 K27 K44 P p5 G B D x v6 v7 v8 v9 (nI (lon ns (fw g nb k (ns - k)))) := by
  have h6 : ns ≤ 6 := hI.1.2.2.2.2.1
  intro n
  induction n with
  | zero => intro k h1 h2; omega
  | succ n ih =>
    intro k h1 h2
    rw [fL_pauses_100, ct0, hL.G0, hI.1.1]
    by_cases e : k = ns
    · subst e
      rw [if_pos (nI_le (Nat.le_refl _) (by omega)), Nat.sub_self]
      rfl
    · rw [if_neg (nI_ge (by omega) (by omega)), L_free hL hI (by omega), bd_s, show ns - k = (ns - (k + 1)) + 1 by omega, fw]
      by_cases c : fr g nb k = 0
      · rw [if_pos c, if_pos c, nI_1]
        exact ih (k + 1) (by omega) (by omega)
      · rw [if_neg c, if_neg c]
        rfl
set_option maxHeartbeats 4000000 in
theorem L_min {ns nb nr nv : Nat} : ∀ (n j : Nat) (G P B D R Q V g : T1), j ≤ nb → nb - j < n → IG g ns nb nr nv → LR G P B D R Q V g → ∃ (c : Nat) (B' D' g' : T1), (∀ (K27 : T1 → T1 → T1 → T5 → Int32 → Int32 → Int32 → Option (Int32 × T1 × T1 × T1 × T5)) (p5 : Int32) (x : T5) (v6 v8 : Int32) (tot : Nat), fL_pauses_44 K27 P p5 n G B D x v6 (nI tot) v8 (nI j) = K27 G B' D' x v6 (nI (tot + c)) (v8 + 1)) ∧ (∀ (σ : T2) (acc : Nat), σ 0 = g → fX11_minute_14 n σ (nI acc) (nI j) = some (nI (acc + c), sU σ 0 g')) ∧ IG g' ns nb nr nv ∧ LR G P B' D' R Q V g' ∧ (∀ i, i < 32 ∨ 128 ≤ i → g' i = g i) := by
  intro n
  induction n with
  | zero => intro j G P B D R Q V g h1 h2; omega
  | succ n ih =>
    intro j G P B D R Q V g hj1 hj2x hI hL
    obtain ⟨⟨h0, h1, h2, h3, hs6, hb16, hr8, hv2⟩, ⟨tm, h4, ht⟩, ⟨⟨t5, h5, ht5⟩, ⟨t6, h6, ht6, ht6b⟩, ⟨t7, h7, ht7⟩⟩, hpl, hdk, hbc, hrd, hvn, hzS, hzB, hzR, hzV⟩ := id hI
    by_cases hj : j = nb
    · refine ⟨0, B, D, g, fun K27 p5 x v6 v8 tot => ?_, fun σ acc hσ => ?_, hI, hL, fun _ _ => rfl⟩
      · rw [fL_pauses_44, ct1, hL.G1, h1, hj, if_pos (nI_le (Nat.le_refl _) (by omega)), Nat.add_zero]
      · rw [fX11_minute_14, ct1, hσ, h1, hj, if_pos (nI_le (Nat.le_refl _) (by omega)), Nat.add_zero, ← hσ, sU_id]
    have hj2 : j < nb := by omega
    have Mg : ∀ σ : T2, σ 0 = g → ¬ σ 0 1 ≤ nI j := fun σ hσ => by rw [hσ, h1]; exact nI_ge (by omega) (by omega)
    have Lg : ¬ G 1 ≤ nI j := by rw [hL.G1, h1]; exact nI_ge (by omega) (by omega)
    by_cases c : g (32 + 6 * j) = 3 ∧ ¬ g 4 < g (32 + 6 * j + 5)
    case neg =>
      obtain ⟨c0, B', D', g', e1, e2, e3, e4, e5⟩ := ih (j + 1) G P B D R Q V g (by omega) (by omega) hI hL
      refine ⟨c0, B', D', g', fun K27 p5 x v6 v8 tot => ?_, fun σ acc hσ => ?_, e3, e4, e5⟩
      · have sk : fL_pauses_153 K27 (fL_pauses_44 K27 P p5 n) P p5 G B D x v6 (nI tot) v8 (nI j) = K27 G B' D' x v6 (nI (tot + c0)) (v8 + 1) := by
          unfold fL_pauses_153
          rw [nI_1]
          exact e1 K27 p5 x v6 v8 tot
        rw [fL_pauses_44, ct1, if_neg Lg, mu3, gi_nI (by omega) (by decide), cl_nI (by omega), hL.B0 (by omega)]
        by_cases c1 : g (32 + 6 * j) = 3
        · rw [if_pos c1, pl2, gi_nI (by omega) (by decide), cl_nI (by omega), hL.D2 (by omega), ct4, hL.G4]
          by_cases c2 : g 4 < g (32 + 6 * j + 5)
          · rw [if_neg (lt_nle c2)]
            exact sk
          · exact absurd ⟨c1, c2⟩ c
        · rw [if_neg c1]
          exact sk
      · have sk : fX11_minute_98 (fX11_minute_14 n) σ (nI acc) (nI j) = some (nI (acc + c0), sU σ 0 g') := by
          unfold fX11_minute_98
          rw [nI_1]
          exact e2 σ acc hσ
        rw [fX11_minute_14, ct1, if_neg (Mg σ hσ), M_ofB0 (by omega), bd_s, hσ]
        by_cases c1 : g (32 + 6 * j) = 3
        · rw [if_pos c1, M_ofB5 (by omega), bd_s, ct4, hσ]
          by_cases c2 : g 4 < g (32 + 6 * j + 5)
          · rw [if_pos c2]; exact sk
          · exact absurd ⟨c1, c2⟩ c
        · rw [if_neg c1]; exact sk
    case pos =>
      have hI1 : IG (sU (sU g (32 + 6 * j + 3) 0) (32 + 6 * j + 2) 0) ns nb nr nv := IG_free (IG_faulty hI hj2 (Or.inl rfl)) (by omega) (by intros; omega) (by intros; omega) (by intros; omega) (by intros; omega)
      have hL1 : LR G P (sU B (3 * j + 2) 0) (sU D (3 * j) 0) R Q V (sU (sU g (32 + 6 * j + 3) 0) (32 + 6 * j + 2) 0) := lr_B2 (lr_D0 hL (by omega)) (by omega)
      have Mf : ∀ σ : T2, σ 0 = (sU (sU g (32 + 6 * j + 3) 0) (32 + 6 * j + 2) 0) → fX11_freeStation σ = some (ob (-4) (fw (sU (sU g (32 + 6 * j + 3) 0) (32 + 6 * j + 2) 0) nb 0 ns)) := fun σ hσ => by
        rw [M_free1 (ns := ns) (nb := nb) (nr := nr) (nv := nv) (by rw [hσ]; exact hI1), hσ]
      have M0 : ∀ (σ : T2) (acc : Nat), σ 0 = g → fX11_minute_14 (n + 1) σ (nI acc) (nI j) = (bd (fX11_freeStation (sU σ 0 (sU (sU g (32 + 6 * j + 3) 0) (32 + 6 * j + 2) 0))) (fun q80 => if q80 < 0 then (fX11_minute_98 (fX11_minute_14 n) (sU σ 0 (sU (sU g (32 + 6 * j + 3) 0) (32 + 6 * j + 2) 0)) (nI acc) (nI j)) else (bd (fX11_puts (sU σ 0 (sU (sU g (32 + 6 * j + 3) 0) (32 + 6 * j + 2) 0)) (nI j) (0 : Int32) q80) (fun q92 => fX11_minute_98 (fX11_minute_14 n) q92 (nI acc + 1) (nI j))))) := fun σ acc hσ => by
        rw [fX11_minute_14, ct1, if_neg (Mg σ hσ), M_ofB0 (by omega), bd_s, hσ, if_pos c.1, M_ofB5 (by omega), bd_s, ct4, hσ, if_neg c.2]
        simp (disch := omega) only [bd_s, bn_s, gi_nI, cl_nI, sU_s, sU_n, sU_sU, nI_1, nI_pred, ixB2, ixB3, hσ]
      have L0 : ∀ (K27 : T1 → T1 → T1 → T5 → Int32 → Int32 → Int32 → Option (Int32 × T1 × T1 × T1 × T5)) (p5 : Int32) (x : T5) (v6 v8 : Int32) (tot : Nat), fL_pauses_44 K27 P p5 (n + 1) G B D x v6 (nI tot) v8 (nI j) = fL_pauses_125 K27 (fL_pauses_44 K27 P p5 n) P p5 G (sU B (3 * j + 2) 0) (sU D (3 * j) 0) x v6 (nI tot) v8 (nI j) (nI (lon ns (fw (sU (sU g (32 + 6 * j + 3) 0) (32 + 6 * j + 2) 0) nb 0 ns))) := fun K27 p5 x v6 v8 tot => by
        rw [fL_pauses_44, ct1, if_neg Lg, mu3, gi_nI (by omega) (by decide), cl_nI (by omega), hL.B0 (by omega), if_pos c.1, pl2, gi_nI (by omega) (by decide), cl_nI (by omega), hL.D2 (by omega), ct4, hL.G4, if_pos (nlt_le c.2), gi_nI (by omega) (by decide), bn_s, gi_nI (by omega) (by decide), bn_s]
        exact L_ff hL1 hI1 fuel 0 (Nat.zero_le _) (by unfold fuel; omega)
      cases e : fw (sU (sU g (32 + 6 * j + 3) 0) (32 + 6 * j + 2) 0) nb 0 ns with
      | none =>
        obtain ⟨c0, B', D', g', e1, e2, e3, e4, e5⟩ := ih (j + 1) G P _ _ R Q V _ (by omega) (by omega) hI1 hL1
        refine ⟨c0, B', D', g', fun K27 p5 x v6 v8 tot => ?_, fun σ acc hσ => ?_, e3, e4, fun i hi => by rw [e5 i hi, sU_n (by omega), sU_n (by omega)]⟩
        · rw [L0, e, fL_pauses_125, ct0, hL.G0, h0, show lon ns none = ns from rfl, if_pos (nI_le (Nat.le_refl _) (by omega))]
          unfold fL_pauses_153
          rw [nI_1]
          exact e1 K27 p5 x v6 v8 tot
        · rw [M0 σ acc hσ, Mf _ sU_s, bd_s, e, if_pos (by decide)]
          unfold fX11_minute_98
          rw [nI_1, e2 _ acc sU_s, sU_sU]
      | some s =>
        obtain ⟨-, hs, hs2⟩ := fw_some ns 0 s e
        obtain ⟨d, d1, d2, d3, d4⟩ := fr_1 hI1 (show s < ns by omega) hs2
        have hI2 : IG (sU (sU (sU (sU g (32 + 6 * j + 3) 0) (32 + 6 * j + 2) 0) (32 + 6 * j) 0) (32 + 6 * j + 1) (nI s)) ns nb nr nv := IG_puts hI1 hj2 (Or.inl ⟨rfl, s, by omega, rfl, d, d1, d4, d3⟩)
        have hL2 := lr_B1 (k := j) (v := nI s) (lr_B0 (k := j) (v := 0) hL1 (by omega)) (by omega)
        obtain ⟨c0, B', D', g', e1, e2, e3, e4, e5⟩ := ih (j + 1) G P _ _ R Q V _ (by omega) (by omega) hI2 hL2
        refine ⟨c0 + 1, B', D', g', fun K27 p5 x v6 v8 tot => ?_, fun σ acc hσ => ?_, e3, e4, fun i hi => by rw [e5 i hi, sU_n (by omega), sU_n (by omega), sU_n (by omega), sU_n (by omega)]⟩
        · rw [L0, e, fL_pauses_125, ct0, hL.G0, h0, show lon ns (some s) = s from rfl, if_neg (nI_ge (by omega) (by omega)), mu3, gi_nI (by omega) (by decide), cl_nI (by omega), bn_s, nI_1, gi_nI (by omega) (by decide), cl_nI (by omega), bn_s, nI_1]
          unfold fL_pauses_153
          rw [nI_1, e1 K27 p5 x v6 v8 (tot + 1), show tot + 1 + c0 = tot + (c0 + 1) by omega]
        · rw [M0 σ acc hσ, Mf _ sU_s, bd_s, e, show ob (-4) (some s) = nI s from rfl, if_neg (nI_pos (by omega)), M_puts (by omega), bd_s, sU_sU, sU_s]
          unfold fX11_minute_98
          rw [nI_1, nI_1, e2 _ (acc + 1) sU_s, sU_sU, show acc + 1 + c0 = acc + (c0 + 1) by omega]
theorem L_paus {ns nb nr nv m : Nat} (hm : m ≤ 200) : ∀ (n j tot t : Nat) (G P B D R Q V g : T1), j ≤ m → m - j < n → g 4 = nI t → t + (m - j) ≤ 9000 → IG g ns nb nr nv → LR G P B D R Q V g → ∃ (c : Nat) (G' B' D' g' : T1), (∀ (p5 : Int32) (x : T5), fL_pauses_27 P p5 n G B D x (nI m) (nI tot) (nI j) = bd (fX10_pause x (nI m)) (fun q => if q.1 = nI c then (some ((1 : Int32), G', B', D', q.2)) else (some ((0 : Int32), G', B', D', q.2)))) ∧ (∀ σ : T2, σ 0 = g → fX11_pause_38 (nI m) n σ (nI tot) (nI j) = some (nI c, sU σ 0 g')) ∧ LR G' P B' D' R Q V g' ∧ (∀ i, i < 4 ∨ 4 < i ∧ i < 32 ∨ 128 ≤ i → g' i = g i) ∧ g' 4 = nI (t + (m - j)) := by
  intro n
  induction n with
  | zero => intro j tot t G P B D R Q V g h1 h2; omega
  | succ n ih =>
    intro j tot t G P B D R Q V g hj1 hj2 h4 h5 hI hL
    by_cases hj : j = m
    · refine ⟨tot, G, B, D, g, fun p5 x => ?_, fun σ hσ => ?_, hL, fun _ _ => rfl, by rw [h4]; exact congrArg nI (by omega)⟩
      · rw [fL_pauses_27, hj, if_pos (nI_le (Nat.le_refl _) (by omega))]
      · rw [fX11_pause_38, hj, if_pos (nI_le (Nat.le_refl _) (by omega)), ← hσ, sU_id]
    · have h16 : nb ≤ 16 := hI.1.2.2.2.2.2.1
      have hI1 : IG (sU g 4 (nI (t + 1))) ns nb nr nv := IG_time hI (by omega)
      have hL1 : LR (sU G 4 (nI (t + 1))) P B D R Q V (sU g 4 (nI (t + 1))) := lr_G (i := 4) hL (by decide)
      obtain ⟨c, B1, D1, g1, a1, a2, a3, a4, a5⟩ := L_min fuel 0 _ P B D R Q V _ (Nat.zero_le _) (by unfold fuel; omega) hI1 hL1
      obtain ⟨c', G', B', D', g', e1, e2, e3, e4, e5⟩ := ih (j + 1) (tot + c) (t + 1) _ P B1 D1 R Q V g1 (by omega) (by omega) ((a5 4 (Or.inl (by decide))).trans sU_s) (by omega) a3 a4
      refine ⟨c', G', B', D', g', fun p5 x => ?_, fun σ hσ => ?_, e3, fun i hi => by rw [e4 i hi, a5 i (by omega), sU_n (by omega)], by rw [e5]; exact congrArg nI (by omega)⟩
      · rw [fL_pauses_27, if_neg (nI_ge (by omega) (by omega)), ct4, hL.G4, h4, nI_1, bn_s]
        refine (a1 _ p5 x (nI m) (nI j) tot).trans ?_
        rw [nI_1]
        exact e1 p5 x
      · have hmin : fX11_minute σ = some (nI (0 + c), sU σ 0 g1) := by
          rw [fX11_minute, ct4, hσ, h4, nI_1, bn_s]
          refine (a2 _ 0 sU_s).trans ?_
          rw [sU_sU]
        rw [fX11_pause_38, if_neg (nI_ge (by omega) (by omega)), hmin, bd_s, Nat.zero_add, nI_add, nI_1, e2 _ sU_s, sU_sU]
theorem A_pauses (hJ : lJ T G P B D R Q V x σ) {y : Nat} (hy : y < 10000000) (hT : T + 120 ≤ 9000) : ∃ (G' B' D' : T1) (x' : T5) (σ' : T2), fL_pauses G P B D x (nI y) = some (1, G', B', D', x') ∧ lJ (T + 120) G' P B' D' R Q V x' σ' := by
  obtain ⟨hRel, hL, hN, hB, t, htt, htT⟩ := id hJ
  obtain ⟨⟨⟨ns, nb, nr, nv, hI⟩, -⟩, -⟩ := id hRel
  obtain ⟨⟨h0, h1, h2, h3, hs6, hb16, hr8, hv2⟩, ⟨tm, h4, ht⟩, ⟨⟨t5, h5, ht5⟩, ⟨t6, h6, ht6, ht6b⟩, ⟨t7, h7, ht7⟩⟩, hpl, hdk, hbc, hrd, hvn, hzS, hzB, hzR, hzV⟩ := id hI
  have et : t = tm := (nI_eq (by omega) (by omega)).mp (htt.symm.trans h4)
  have key : ∀ d, 1 ≤ d → d ≤ 120 → ∃ (G' B' D' : T1) (x' : T5) (σ' : T2), fL_pauses_17 P (nI y) G B D x 1 (nI y) (nI d) = some (1, G', B', D', x') ∧ lJ (T + 120) G' P B' D' R Q V x' σ' := fun d hd hd2 => by
    have hlt : y % d < d := Nat.mod_lt _ hd
    rw [fL_pauses_17, nz_s (nI_ne0 hd (by omega)), pk_rem (by omega) hd (by omega), lq1]
    obtain ⟨m, hm⟩ : ∃ m, m = 1 + y % d := ⟨_, rfl⟩
    rw [← hm]
    obtain ⟨c, G', B', D', g', e1, e2, e3, e4, e5⟩ := L_paus (m := m) (by omega) fuel 0 0 tm G P B D R Q V (σ 0) (Nat.zero_le _) (by unfold fuel; omega) h4 (by omega) hI hL
    obtain ⟨x', σ', f1, hJ'⟩ := hJ.of (T' := T + 120) (E_pause hRel rfl hI (by omega) (by omega) h4 (by omega) e2) e3 (bg_same hB (e4 0 (by omega)) (e4 2 (by omega)) (fun k hk => e4 _ (by omega)) (fun k hk => ⟨e4 _ (by omega), e4 _ (by omega)⟩)) ⟨_, e5, by omega⟩
    refine ⟨G', B', D', x', σ', (e1 (nI y) x).trans ?_, hJ'⟩
    rw [f1, bd_s]
    exact if_pos rfl
  rw [fL_pauses]
  by_cases c : nI y - nI y / 4 * 4 = 0
  · rw [if_pos c]
    exact key 120 (by decide) (by decide)
  · rw [if_neg c]
    exact key 14 (by decide) (by decide)
end B7
