/-! MATH 15: the move; typing -/
/-- what a move helps -/
def hm (g : T1) (nb i j : Nat) : Int32 := uv (nI (cw g 0 (nI i) nb)) (g (8 + 4 * i + 1)) + uv (nI (cw g 0 (nI j) nb)) (g (8 + 4 * j + 1)) - uv (nI (cw g 0 (nI i) nb) - 1) (g (8 + 4 * i + 1)) - uv (nI (cw g 0 (nI j) nb) + 1) (g (8 + 4 * j + 1))
theorem four {a b c d : Int32} : (a - b) + (c - d) = a + c - b - d := by
  simp only [Int32.sub_eq_add_neg]
  ac_rfl
theorem X_gain {p : T3} {g : T1} {ns nb nr nv k : Nat} {S : T2} {t : Int32} (hI : IG g ns nb nr nv) (hR : RR p g) (hk : k < ns) : fX2_gain S p (nI k) t = some (un g nb k - uv (nI (cw g 0 (nI k) nb) + t) (g (8 + 4 * k + 1))) := by
  have h6 : ns ≤ 6 := hI.1.2.2.2.2.1
  rw [fX2_gain, X6_has hI hR, hs_t hk (by omega), bd_s, if_neg ne10, X_docked hI hR (by omega), bd_s, gi_nI (by omega) (by decide), cl_nI (by omega), hR.2.1.2.1 k (by omega), way_x, bn_s, X_uneven hI hR hk, bd_s]
  rfl
theorem M_help {σ : T2} {ns nb nr nv i j : Nat} (hI : IG (σ 0) ns nb nr nv) (hi : i < ns) (hj : j < ns) : fX11_help σ (nI i) (nI j) = some (if i = j ∨ cw (σ 0) 0 (nI i) nb = 0 ∨ fr (σ 0) nb j = 0 then -1000 else hm (σ 0) nb i j) := by
  have h6 : ns ≤ 6 := hI.1.2.2.2.2.1
  have h16 : nb ≤ 16 := hI.1.2.2.2.2.2.1
  have hc : cw (σ 0) 0 (nI i) nb ≤ nb := cw_le _ _ _ _
  have hc2 : cw (σ 0) 0 (nI j) nb ≤ nb := cw_le _ _ _ _
  obtain ⟨d, d1, d2, d3, d4⟩ := hI.2.2.2.2.1 j hj
  rw [fX11_help, M_docked hI.1.2.1 h16, bd_s, M_docked hI.1.2.1 h16, bd_s, M_ofS1 (by omega), bd_s, M_ofS1 (by omega), bd_s]
  by_cases e1 : i = j
  · rw [if_pos (by rw [e1]), if_pos (Or.inl e1)]
  rw [if_neg (fun e => e1 ((nI_eq (by omega) (by omega)).mp e))]
  by_cases e2 : cw (σ 0) 0 (nI i) nb = 0
  · rw [if_pos (by rw [e2]; rfl), if_pos (Or.inr (Or.inl e2))]
  rw [if_neg (show ¬ nI (cw (σ 0) 0 (nI i) nb) = 0 from fun e => e2 ((nI_eq (b := 0) (by omega) (by omega)).mp e))]
  by_cases e3 : fr (σ 0) nb j = 0
  · rw [if_pos, if_pos (Or.inr (Or.inr e3))]
    unfold fr at e3
    by_cases c : σ 0 (8 + 4 * j + 1) ≤ nI (cw (σ 0) 0 (nI j) nb)
    · rw [d1] at c ⊢
      have := (nI_leI (by omega) (by omega)).mp c
      rw [show cw (σ 0) 0 (nI j) nb = d by omega]
    · rw [if_neg c] at e3
      exact absurd e3 ne10
  · rw [if_neg, if_neg (by rintro (q | q | q); exact e1 q; exact e2 q; exact e3 q), M_uv, bd_s, M_uv, bd_s, M_uv, bd_s, M_uv, bd_s]
    · rfl
    · intro q
      obtain ⟨d', f1, -, f3, f2⟩ := fr_1 hI hj e3
      rw [f1] at q
      have := (nI_eq (a := cw (σ 0) 0 (nI j) nb) (b := d') (by omega) (by omega)).mp q
      omega
def Rm (S : T2) (v2 v3 v4 v5 : Int32) : Prop := S 2 2 = v4 ∧ S 2 3 = v5 ∧ ¬ v4 < 0 ∧ (v4 = 0 ∨ (S 2 0 = v2 ∧ S 2 1 = v3))
def JM (p1 : Int32) (X : Option (Int32 × T2)) (M : Option Int32) : Prop := ∃ b S', X = some (b, S') ∧ ((b = 0 ∧ M = some (-4)) ∨ (b = 1 ∧ M = some (if p1 = 0 then S' 2 0 else if p1 = 1 then S' 2 1 else S' 2 2)))
theorem Rm_60 {p : T3} {S : T2} {a b c d : Int32} (hc : ¬ c < 0) : ∃ S', fX2_weigh_60 p a b S c d = some S' ∧ Rm S' a b c d := by
  refine ⟨_, rfl, ?_, ?_, hc, Or.inr ⟨?_, ?_⟩⟩ <;> simp (disch := omega) only [sU_s, sU_n]
theorem mv_in {p : T3} {σ : T2} {ns nb nr nv i : Nat} {p1 : Int32} {K22 : T2 → Int32 → Option (Int32 × T2)} {K26 : Int32 → Int32 → Int32 → Int32 → Int32 → Option Int32} (hI : IG (σ 0) ns nb nr nv) (hR : RR p (σ 0)) (hi : i < ns) (hK : ∀ S v2 v3 v4 v5, Rm S v2 v3 v4 v5 → JM p1 (K22 S (nI (i + 1))) (K26 v2 v3 v4 v5 (nI (i + 1)))) : ∀ (n j : Nat) (S : T2) (v2 v3 v4 v5 : Int32), j ≤ ns → ns - j < n → Rm S v2 v3 v4 v5 → JM p1 (fX2_findMove_35 K22 p n S (nI i) (nI j)) (fX11_move_40 K26 σ p1 n v2 v3 v4 v5 (nI i) (nI j)) := by
  have h6 : ns ≤ 6 := hI.1.2.2.2.2.1
  have h16 : nb ≤ 16 := hI.1.2.2.2.2.2.1
  have hc : cw (σ 0) 0 (nI i) nb ≤ nb := cw_le _ _ _ _
  intro n
  induction n with
  | zero => intro j S v2 v3 v4 v5 h1 h2; omega
  | succ n ih =>
    intro j S v2 v3 v4 v5 h1 h2 h3
    rw [fX2_findMove_35, fX11_move_40, ct0, hR.1.1, hI.1.1]
    by_cases hj : j = ns
    · subst hj
      rw [if_pos (nI_le (Nat.le_refl _) (by omega)), if_pos (nI_le (Nat.le_refl _) (by omega)), nI_1]
      exact hK S v2 v3 v4 v5 h3
    have hj2 : j < ns := by omega
    obtain ⟨x, hx, hx2⟩ := hI.2.2.2.1 i hi
    obtain ⟨y, hy, hy2⟩ := hI.2.2.2.1 j hj2
    obtain ⟨w, hw⟩ : ∃ w, w = nI (if y ≤ x then x - y else y - x) := ⟨_, rfl⟩
    rw [if_neg (nI_ge (by omega) (by omega)), if_neg (nI_ge (by omega) (by omega)), M_help hI hi hj2, bd_s, M_way (by omega) (by omega) hx hy hx2 hy2, bd_s, ← hw]
    have skip : ∀ S', Rm S' v2 v3 v4 v5 → JM p1 (fX2_findMove_74 K22 (fX2_findMove_35 K22 p n) p S' (nI i) (nI j)) (fX11_move_111 K26 (fX11_move_40 K26 σ p1 n) σ p1 v2 v3 v4 v5 (nI i) (nI j)) := by
      intro S' h
      unfold fX2_findMove_74 fX11_move_111
      rw [nI_1]
      exact ih (j + 1) S' v2 v3 v4 v5 (by omega) (by omega) h
    have v4a : ¬ v4 < -1000 := fun q => h3.2.2.1 (Int32.lt_trans q (by decide))
    have v4b : ¬ (-1000 : Int32) = v4 := fun q => h3.2.2.1 (by rw [← q]; decide)
    by_cases e1 : i = j
    · rw [if_pos (by rw [e1]), if_pos (Or.inl e1), if_neg v4a, if_neg v4b]
      exact skip S h3
    rw [if_neg (fun e => e1 ((nI_eq (by omega) (by omega)).mp e)), X_docked hI hR (by omega), bd_s]
    by_cases e2 : cw (σ 0) 0 (nI i) nb = 0
    · rw [if_pos (by rw [e2]; decide), if_pos (Or.inr (Or.inl e2)), if_neg v4a, if_neg v4b]
      exact skip S h3
    rw [if_neg (show ¬ nI (cw (σ 0) 0 (nI i) nb) ≤ 0 from nI_ge (a := 0) (by omega) (by omega)), X_free hI hR hj2, bd_s]
    by_cases e3 : fr (σ 0) nb j = 0
    · rw [if_pos e3, if_pos (Or.inr (Or.inr e3)), if_neg v4a, if_neg v4b]
      exact skip S h3
    have e4 : ¬ (i = j ∨ cw (σ 0) 0 (nI i) nb = 0 ∨ fr (σ 0) nb j = 0) := by rintro (q | q | q); exact e1 q; exact e2 q; exact e3 q
    rw [if_neg e3, if_neg e4]
    have E : un (σ 0) nb i - uv (nI (cw (σ 0) 0 (nI i) nb) + -1) (σ 0 (8 + 4 * i + 1)) + (un (σ 0) nb j - uv (nI (cw (σ 0) 0 (nI j) nb) + 1) (σ 0 (8 + 4 * j + 1))) = hm (σ 0) nb i j := by
      rw [four, show nI (cw (σ 0) 0 (nI i) nb) + -1 = nI (cw (σ 0) 0 (nI i) nb) - 1 from (Int32.sub_eq_add_neg _ _).symm]
      rfl
    rw [fX2_weigh, X_gain hI hR hi, bd_s, X_gain hI hR hj2, bd_s, X_way hI hR hi hj2 hx hy hx2 hy2, bd_s, ← hw, E, h3.1, h3.2.1]
    have take : ∀ S2 : T2, ¬ hm (σ 0) nb i j < 0 → JM p1 (bd (fX2_weigh_60 p (nI i) (nI j) S2 (hm (σ 0) nb i j) w) (fun q71 => fX2_findMove_74 K22 (fX2_findMove_35 K22 p n) p q71 (nI i) (nI j))) (fX11_move_97 K26 (fX11_move_40 K26 σ p1 n) σ p1 (nI i) (nI j) (hm (σ 0) nb i j) w) := by
      intro S2 hh
      obtain ⟨S', f1, f2⟩ := Rm_60 (p := p) (S := S2) (a := nI i) (b := nI j) (d := w) hh
      rw [f1, bd_s]
      unfold fX11_move_97 fX2_findMove_74 fX11_move_111
      rw [nI_1]
      exact ih (j + 1) S' _ _ _ _ (by omega) (by omega) f2
    by_cases c1 : v4 < hm (σ 0) nb i j
    · rw [if_pos c1, if_pos c1]
      exact take S (fun q => h3.2.2.1 (Int32.lt_trans c1 q))
    rw [if_neg c1, if_neg c1]
    by_cases c2 : hm (σ 0) nb i j = v4
    · rw [if_pos c2, if_pos c2, c2]
      by_cases c3 : v4 ≤ 0
      · rw [if_pos c3, if_pos c3, bd_s]
        exact skip S h3
      rw [if_neg c3, if_neg c3]
      by_cases c4 : v5 ≤ w
      · rw [if_pos c4, if_pos c4, bd_s]
        exact skip S h3
      · rw [if_neg c4, if_neg c4]
        have := take S (by rw [c2]; exact h3.2.2.1)
        rw [c2] at this
        exact this
    · rw [if_neg c2, if_neg c2, bd_s]
      exact skip S h3
theorem mv_out {p : T3} {σ : T2} {ns nb nr nv : Nat} {p1 : Int32} (hI : IG (σ 0) ns nb nr nv) (hR : RR p (σ 0)) : ∀ (n i : Nat) (S : T2) (v2 v3 v4 v5 : Int32), i ≤ ns → ns - i < n → Rm S v2 v3 v4 v5 → JM p1 (fX2_findMove_22 p n S (nI i)) (fX11_move_26 σ p1 n v2 v3 v4 v5 (nI i)) := by
  have h6 : ns ≤ 6 := hI.1.2.2.2.2.1
  intro n
  induction n with
  | zero => intro i S v2 v3 v4 v5 h1 h2; omega
  | succ n ih =>
    intro i S v2 v3 v4 v5 h1 h2 h3
    rw [fX2_findMove_22, fX11_move_26, ct0, hR.1.1, hI.1.1]
    by_cases hj : i = ns
    · subst hj
      rw [if_pos (nI_le (Nat.le_refl _) (by omega)), if_pos (nI_le (Nat.le_refl _) (by omega)), h3.1]
      by_cases e : v4 = 0
      · rw [if_pos (by rw [e]; decide), if_pos e]
        exact ⟨0, S, rfl, Or.inl ⟨rfl, rfl⟩⟩
      · rw [if_neg (fun q => e (Int32.le_antisymm q (Int32.not_lt.mp h3.2.2.1))), if_neg e]
        obtain ⟨q1, q2⟩ := h3.2.2.2.resolve_left e
        refine ⟨1, S, rfl, Or.inr ⟨rfl, ?_⟩⟩
        rw [q1, q2, h3.1]
        by_cases e0 : p1 = 0
        · rw [if_pos e0, if_pos e0]
        · rw [if_neg e0, if_neg e0]
          by_cases e1 : p1 = 1
          · rw [if_pos e1, if_pos e1]
          · rw [if_neg e1, if_neg e1]
    · rw [if_neg (nI_ge (by omega) (by omega)), if_neg (nI_ge (by omega) (by omega))]
      exact mv_in hI hR (by omega) (fun S v2 v3 v4 v5 h => ih (i + 1) S v2 v3 v4 v5 (by omega) (by omega) h) fuel 0 S v2 v3 v4 v5 (by omega) (by unfold fuel; omega) h3
theorem r_move {x : T5} {σ : T2} (h : Rel x σ) (p1 : Int32) : RDS x (fX10_move x p1) σ (fX11_move σ p1) := by
  obtain ⟨⟨⟨ns, nb, nr, nv, hI⟩, hR⟩, -⟩ := id h
  obtain ⟨⟨h0, h1, h2, h3, hs6, hb16, hr8, hv2⟩, ⟨tm, h4, ht⟩, ⟨⟨t5, h5, ht5⟩, ⟨t6, h6, ht6, ht6b⟩, ⟨t7, h7, ht7⟩⟩, hpl, hdk, hbc, hrd, hvn, hzS, hzB, hzR, hzV⟩ := id hI
  obtain ⟨⟨a0, a1, a2, a3, a4, a5⟩, ⟨s0, s1, s2, s3⟩, ⟨b0, b1, b2, b3, b4, b5⟩, ⟨r0, r1, r2, r3, r4, r5, r6, r7, r8⟩, ⟨v0, v1, v2⟩⟩ := id hR
  rw [fX10_move, fX11_move]
  rcases rng p1 2 (by decide) with ⟨q1, q2, -⟩ | ⟨k, q1, rfl, q3⟩
  · refine ⟨-1, x, ?_, ?_, h⟩
    · rcases q2 with q2 | ⟨q2, q4⟩
      · rw [if_pos q2]
      · rw [if_neg q2, if_neg (show ¬ p1 ≤ 2 from q4)]
    · rw [show fX11_in p1 0 2 = some 0 from q1, bd_s, if_pos rfl]
  rw [show fX11_in (nI k) 0 2 = some 1 from q3, bd_s, if_neg ne10, if_neg (nI_pos (by omega)), if_pos (show nI k ≤ 2 from nI_le (b := 2) q1 (by decide)), fX2_findMove]
  simp only [bn_s]
  obtain ⟨b, S', e1, e2⟩ := mv_out (p := x 1 0) (p1 := nI k) hI hR fuel 0 (sU (sU (sU (sU (x 1 3 0) 2 (sU (x 1 3 0 2) 0 (-1))) 2 (sU ((sU (x 1 3 0) 2 (sU (x 1 3 0 2) 0 (-1))) 2) 1 (-1))) 2 (sU ((sU (sU (x 1 3 0) 2 (sU (x 1 3 0 2) 0 (-1))) 2 (sU ((sU (x 1 3 0) 2 (sU (x 1 3 0 2) 0 (-1))) 2) 1 (-1))) 2) 2 0)) 2 (sU ((sU (sU (sU (x 1 3 0) 2 (sU (x 1 3 0 2) 0 (-1))) 2 (sU ((sU (x 1 3 0) 2 (sU (x 1 3 0 2) 0 (-1))) 2) 1 (-1))) 2 (sU ((sU (sU (x 1 3 0) 2 (sU (x 1 3 0 2) 0 (-1))) 2 (sU ((sU (x 1 3 0) 2 (sU (x 1 3 0 2) 0 (-1))) 2) 1 (-1))) 2) 2 0)) 2) 3 0)) (-4) (-4) 0 0 (by omega) (by unfold fuel; omega) ⟨by simp (disch := omega) only [sU_s, sU_n], by simp (disch := omega) only [sU_s, sU_n], by decide, Or.inl rfl⟩
  rw [show fX2_findMove_22 (x 1 0) fuel _ 0 = _ from e1, bd_s]
  rcases e2 with ⟨rfl, e2⟩ | ⟨rfl, e2⟩
  · refine ⟨-4, sU x 1 (sU (x 1) 3 (sU (x 1 3) 0 S')), ?_, e2, Rel_fill h S'⟩
    rw [if_pos (show ((0 : Int32), S').1 = 0 from rfl)]
  · refine ⟨_, sU x 1 (sU (x 1) 3 (sU (x 1 3) 0 S')), ?_, e2, Rel_fill h S'⟩
    rw [if_neg (show ¬ ((1 : Int32), S').1 = 0 from ne10)]
    simp (disch := omega) only [sU_s, sU_n]
    by_cases e0 : nI k = 0
    · rw [if_pos e0, if_pos e0]
    · rw [if_neg e0, if_neg e0]
      by_cases e3 : nI k = 1
      · rw [if_pos e3, if_pos e3]
      · rw [if_neg e3, if_neg e3]
theorem ch_t : ∀ c, c < 127 → vp_nar .char ((nI c).toUInt32 % 65536).toInt32 = nI c := by decide +kernel
theorem L_type {x : T5} {σ : T2} (h : Rel x σ) (p1 : Int32) : LIFT x (fX10_type x p1) σ (fX11_type σ p1) := by
  obtain ⟨hr1, hr2, hr3, hr4, tl, t1, t2, t3, t4⟩ := id h
  rw [fX10_type, fX7_append, fX11_type]
  have same : sU x 1 (sU (x 1) 3 (sU (x 1 3) 1 (x 1 3 1))) = x := by rw [sU_id, sU_id, sU_id]
  by_cases c1 : p1 < 32
  · refine ⟨-1, x, σ, ?_, ?_, h⟩
    · rw [if_pos c1, bd_s, bn_s]; exact congrArg (fun z => some (_, z)) same
    · rw [M_in0 c1, bd_s, if_pos rfl]
  by_cases c2 : 126 < p1
  · refine ⟨-1, x, σ, ?_, ?_, h⟩
    · rw [if_neg c1, if_neg (Int32.not_le.mpr c2), bd_s, bn_s]; exact congrArg (fun z => some (_, z)) same
    · rw [M_in1 c1 c2, bd_s, if_pos rfl]
  obtain ⟨c, ca, cb, rfl⟩ := ofI (a := 32) (b := 126) (by decide) (by decide) c1 c2
  rw [if_neg c1, if_pos (Int32.not_lt.mp c2), M_in2 c1 c2, bd_s, if_neg ne10, t2, t3]
  by_cases e : tl = 60
  · subst e
    refine ⟨-3, x, σ, ?_, ?_, h⟩
    · rw [if_neg (by decide), bd_s, bn_s]; exact congrArg (fun z => some (_, z)) same
    · rw [if_pos (show nI 60 = 60 from rfl)]
  rw [if_pos (show nI tl < 60 from nI_lt (b := 60) (by omega) (by decide)), if_neg (show ¬ nI tl = 60 from fun q => e ((nI_eq (b := 60) (by omega) (by decide)).mp q)), gi_nI (by omega) (by decide), gi_nI (by omega) (by decide), cl_nI (by omega), ch_t c (by omega)]
  simp (disch := omega) only [bn_s, bd_s, sU_s, sU_n, t2, t3, nI_1]
  refine ⟨nI (tl + 1), _, _, rfl, rfl, ?_⟩
  unfold Rel
  refine ⟨?_, ?_, ?_, ?_, tl + 1, by omega, ?_, ?_, fun k hk => ?_⟩
  · simp (disch := omega) only [sU_s, sU_n]; exact hr1
  · simp (disch := omega) only [sU_s, sU_n]; exact hr2
  · simp (disch := omega) only [sU_s, sU_n]; exact hr3
  · simp (disch := omega) only [sU_s, sU_n]; exact hr4
  · simp (disch := omega) only [sU_s, sU_n]
  · simp (disch := omega) only [sU_s, sU_n]
  · by_cases e2 : k = tl
    · subst e2
      simp (disch := omega) only [sU_s, sU_n]
      exact ⟨by trivial, c, rfl, ca, cb⟩
    · simp (disch := omega) only [sU_s, sU_n]
      exact t4 k (by omega)
theorem L_clearText {x : T5} {σ : T2} (h : Rel x σ) : LIFT x (fX10_clearText x) σ (fX11_clearText σ) := by
  obtain ⟨hr1, hr2, hr3, hr4, tl, t1, t2, t3, t4⟩ := id h
  rw [fX10_clearText, fX7_empty, fX11_clearText]
  simp (disch := omega) only [bn_s, bd_s, sU_s, sU_n, t2, t3]
  refine ⟨nI tl, _, _, rfl, rfl, ?_⟩
  unfold Rel
  refine ⟨?_, ?_, ?_, ?_, 0, by omega, ?_, ?_, fun k hk => absurd hk (by omega)⟩
  · simp (disch := omega) only [sU_s, sU_n]; exact hr1
  · simp (disch := omega) only [sU_s, sU_n]; exact hr2
  · simp (disch := omega) only [sU_s, sU_n]; exact hr3
  · simp (disch := omega) only [sU_s, sU_n]; exact hr4
  · simp (disch := omega) only [sU_s, sU_n]; rfl
  · simp (disch := omega) only [sU_s, sU_n]; rfl
