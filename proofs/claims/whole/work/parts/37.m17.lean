/-! MATH 17: a command of the text -/
theorem kd_of {c : Nat → Nat} {tl r e : Nat} (he : e < 10) (h : ah c tl r e) : kd c r (wl e) = vc e := by
  obtain ⟨-, h⟩ := h
  rcases (show e = 0 ∨ e = 1 ∨ e = 2 ∨ e = 3 ∨ e = 4 ∨ e = 5 ∨ e = 6 ∨ e = 7 ∨ e = 8 ∨ e = 9 by omega) with rfl | rfl | rfl | rfl | rfl | rfl | rfl | rfl | rfl | rfl
  · have q0 : c (r + 0) = 114 := h 0 (by decide)
    have q1 : c (r + 1) = 101 := h 1 (by decide)
    have q2 : c (r + 2) = 110 := h 2 (by decide)
    have q3 : c (r + 3) = 116 := h 3 (by decide)
    show kd c r 4 = 595412
    simp only [kd, q0, q1, q2, q3]
  · have q0 : c (r + 0) = 98 := h 0 (by decide)
    have q1 : c (r + 1) = 97 := h 1 (by decide)
    have q2 : c (r + 2) = 99 := h 2 (by decide)
    have q3 : c (r + 3) = 107 := h 3 (by decide)
    show kd c r 4 = 66667
    simp only [kd, q0, q1, q2, q3]
  · have q0 : c (r + 0) = 102 := h 0 (by decide)
    have q1 : c (r + 1) = 117 := h 1 (by decide)
    have q2 : c (r + 2) = 108 := h 2 (by decide)
    have q3 : c (r + 3) = 108 := h 3 (by decide)
    show kd c r 4 = 218508
    simp only [kd, q0, q1, q2, q3]
  · have q0 : c (r + 0) = 102 := h 0 (by decide)
    have q1 : c (r + 1) = 97 := h 1 (by decide)
    have q2 : c (r + 2) = 117 := h 2 (by decide)
    have q3 : c (r + 3) = 108 := h 3 (by decide)
    have q4 : c (r + 4) = 116 := h 4 (by decide)
    show kd c r 5 = 6346132
    simp only [kd, q0, q1, q2, q3, q4]
  · have q0 : c (r + 0) = 116 := h 0 (by decide)
    have q1 : c (r + 1) = 97 := h 1 (by decide)
    have q2 : c (r + 2) = 107 := h 2 (by decide)
    have q3 : c (r + 3) = 101 := h 3 (by decide)
    show kd c r 4 = 656741
    simp only [kd, q0, q1, q2, q3]
  · have q0 : c (r + 0) = 112 := h 0 (by decide)
    have q1 : c (r + 1) = 117 := h 1 (by decide)
    have q2 : c (r + 2) = 116 := h 2 (by decide)
    show kd c r 3 = 17076
    simp only [kd, q0, q1, q2]
  · have q0 : c (r + 0) = 103 := h 0 (by decide)
    have q1 : c (r + 1) = 111 := h 1 (by decide)
    show kd c r 2 = 239
    simp only [kd, q0, q1]
  · have q0 : c (r + 0) = 109 := h 0 (by decide)
    have q1 : c (r + 1) = 101 := h 1 (by decide)
    have q2 : c (r + 2) = 110 := h 2 (by decide)
    have q3 : c (r + 3) = 100 := h 3 (by decide)
    show kd c r 4 = 431556
    simp only [kd, q0, q1, q2, q3]
  · have q0 : c (r + 0) = 112 := h 0 (by decide)
    have q1 : c (r + 1) = 97 := h 1 (by decide)
    have q2 : c (r + 2) = 115 := h 2 (by decide)
    have q3 : c (r + 3) = 115 := h 3 (by decide)
    show kd c r 4 = 525939
    simp only [kd, q0, q1, q2, q3]
  · have q0 : c (r + 0) = 119 := h 0 (by decide)
    have q1 : c (r + 1) = 97 := h 1 (by decide)
    have q2 : c (r + 2) = 105 := h 2 (by decide)
    have q3 : c (r + 3) = 116 := h 3 (by decide)
    show kd c r 4 = 754996
    simp only [kd, q0, q1, q2, q3]
theorem ah_le {c : Nat → Nat} {tl r e L : Nat} (he : e < 10) (h : ah c tl r e) (hL : L = 5 ∨ ¬ ltr c tl (r + L)) : wl e ≤ L := by
  rcases Nat.lt_or_ge L (wl e) with q | q
  · have := wl5 e he
    rcases hL with hL | hL
    · omega
    · have b := wn_b e he L q
      have d := h.2 L q
      exact absurd (show ltr c tl (r + L) from ⟨by have := h.1; omega, by omega, by omega⟩) hL
  · exact q
theorem p33 : ∀ j : Nat, 1 ≤ 33 ^ j := by
  intro j
  induction j with
  | zero => decide
  | succ j ih => rw [Nat.pow_succ]; omega
theorem wn_ne : ∀ e, e < 10 → ∀ e', e' < 10 → e ≠ e' → ∃ i, i < 5 ∧ i < wl e ∧ i < wl e' ∧ wn e i ≠ wn e' i := by decide
theorem ah_one {c : Nat → Nat} {tl r e e' : Nat} (he : e < 10) (he' : e' < 10) (h : ah c tl r e) (h' : ah c tl r e') : e = e' := by
  by_cases q : e = e'
  · exact q
  · obtain ⟨i, -, i1, i2, i3⟩ := wn_ne e he e' he' q
    exact absurd ((h.2 i i1).symm.trans (h'.2 i i2)) i3
theorem TX_go {S : T2} {c : Nat → Nat} {tl r r' : Nat} (h : TX S c tl r) : TX (sU S 2 (sU (S 2) 5 (nI r'))) c tl r' := ⟨by simp (disch := omega) only [sU_s, sU_n]; exact h.1, by simp (disch := omega) only [sU_s, sU_n], fun k hk => by simp (disch := omega) only [sU_s, sU_n]; exact h.2.2 k hk⟩
theorem FX_go {S : T2} {v : Int32} : FX S (sU S 2 (sU (S 2) 5 v)) := ⟨by simp (disch := omega) only [sU_s, sU_n], fun i hi => by simp (disch := omega) only [sU_s, sU_n]⟩
theorem cmd_word {S σ : T2} {c : Nat → Nat} {tl r : Nat} (hg : GT c tl) (hr : r ≤ tl) (hX : TX S c tl r) (hM : TM σ c tl r) :
    (∃ e S' σ', e < 10 ∧ r + wl e ≤ tl ∧ fX7_readVerb S = some (some e, S') ∧ fX11_parses σ = fX11_parses_180 σ' (vo e) ∧ TX S' c tl (r + wl e) ∧ TM σ' c tl (r + wl e) ∧ σ' 6 7 = nI (vc e) ∧ FR σ σ' ∧ FX S S') ∨
    (∃ σ', fX11_parses σ = some (0, σ') ∧ FR σ σ' ∧ (fX7_readVerb S = some (none, S) ∨ ∃ e S', e < 10 ∧ fX7_readVerb S = some (some e, S') ∧ FX S S' ∧ TX S' c tl (r + wl e) ∧ r + wl e < tl ∧ c (r + wl e) ≠ 32)) := by
  obtain ⟨L, σ', m1, m2, m3, m4, m5, m6, m7, m8⟩ := M_word (c := c) (tl := tl) (r := r) hg fuel 0 (sU σ 6 (sU (σ 6) 7 0)) ⟨by simp (disch := omega) only [sU_s, sU_n]; exact hM.1, by simp (disch := omega) only [sU_s, sU_n]; exact hM.2.1, fun k hk => by simp (disch := omega) only [sU_s, sU_n]; exact hM.2.2 k hk⟩ (by omega) hr (fun i hi => absurd hi (by omega)) (by simp (disch := omega) only [sU_s, sU_n]; rfl) (by unfold fuel; omega)
  have m9 : fX11_parses σ = fX11_parses_68 σ' := by
    rw [fX11_parses, bn_s, ← m5, hM.2.1]
  have mF : FR σ σ' := FR_tr ⟨fun i p q => by simp (disch := omega) only [sU_s, sU_n], fun i p q => by simp (disch := omega) only [sU_s, sU_n]⟩ m8
  have kb : kd c r L < 2 ^ 31 := by
    have hc : ∀ i, i < L → c (r + i) ≤ 122 := fun i hi => (m3 i hi).2.2
    have : ∀ j, j ≤ L → kd c r j ≤ 33 ^ j := by
      intro j
      induction j with
      | zero => intro _; exact Nat.zero_le _
      | succ j ih =>
        intro hj
        have a := ih (by omega)
        have b := hc j (by omega)
        have p : 1 ≤ 33 ^ j := p33 j
        rw [kd, Nat.pow_succ]
        rcases Nat.eq_zero_or_pos j with z | z
        · subst z
          have : kd c r 0 = 0 := rfl
          omega
        · have p2 : 33 ^ 1 ≤ 33 ^ j := Nat.pow_le_pow_right (by decide) z
          omega
    have a := this L (Nat.le_refl _)
    have b : 33 ^ L ≤ 33 ^ 5 := Nat.pow_le_pow_right (by decide) m1
    have d : 33 ^ 5 = 39135393 := by decide
    omega
  have X := X_verb_lp hg hr hX fuel 0 (by omega) (by unfold fuel; omega) (fun e he => absurd he (by omega))
  have XV : ∀ e, ah c tl r e → e < 10 → fX7_readVerb S = some (some e, sU S 2 (sU (S 2) 5 (nI (r + wl e)))) := by
    intro e h1 h2
    rcases X with ⟨e', x1, x2, x3⟩ | ⟨x1, -⟩
    · rw [ah_one h2 x1 h1 x2]; exact x3
    · exact absurd h1 (x1 e h2)
  rcases M_68 kb m7 with ⟨e, y1, y2, y3⟩ | ⟨y1, y2⟩
  · obtain ⟨z1, z2⟩ := code_inv m1 y1 m3 m2 y2
    subst z1
    exact Or.inl ⟨e, _, σ', y1, m2, XV e z2 y1, m9.trans y3, TX_go hX, m6, by rw [m7, y2], mF, FX_go⟩
  · refine Or.inr ⟨σ', m9.trans y2, mF, ?_⟩
    rcases X with ⟨e, x1, x2, x3⟩ | ⟨-, x1⟩
    · have l1 := ah_le x1 x2 m4
      have l2 : wl e ≠ L := fun q => y1 e x1 (by rw [← q]; exact kd_of x1 x2)
      obtain ⟨f1, f2, f3⟩ := m3 (wl e) (by omega)
      exact Or.inr ⟨e, _, x1, x3, FX_go, TX_go hX, f1, by omega⟩
    · exact Or.inl x1
theorem gz_1 {β : Type} {x : Option β} : gz 1 x = x := if_pos (Or.inr rfl)
theorem gz_0 {β : Type} {x : Option β} : gz 0 x = x := if_pos (Or.inl rfl)
/-- one sign -/
theorem sign {S σ : T2} {c : Nat → Nat} {tl r s : Nat} (hg : GT c tl) (hr : r ≤ tl) (hs : s < 1000) (hX : TX S c tl r) (hM : TM σ c tl r) :
    (r < tl ∧ c r = s ∧ ∃ S' σ', fX7_readSign S (nI s) = some (1, S') ∧ fX11_passes σ (nI s) = some (1, σ') ∧ TX S' c tl (r + 1) ∧ TM σ' c tl (r + 1) ∧ FX S S' ∧ S' 1 = S 1 ∧ FR σ σ' ∧ σ' 5 = σ 5 ∧ σ' 6 7 = σ 6 7) ∨
    (¬ (r < tl ∧ c r = s) ∧ fX7_readSign S (nI s) = some (0, S) ∧ ∃ σ', fX11_passes σ (nI s) = some (0, σ') ∧ FR σ σ') := by
  obtain ⟨g1, g2⟩ := id hg
  obtain ⟨a1, a2, a3⟩ := id hX
  obtain ⟨b1, b2, b3⟩ := id hM
  rw [fX7_readSign, fX11_passes, M_at hg hr hM hs hs, bd_s, a1, a2, b2]
  by_cases e : r < tl ∧ c r = s
  · obtain ⟨e1, e2⟩ := id e
    rw [if_pos (show r < tl ∧ s ≤ c r ∧ c r ≤ s by omega), if_neg ne10, if_neg (nI_ge e1 (by omega)), gi_nI (by omega) (by decide), cl_nI (by omega), a3 r e1, e2, if_pos rfl, bn_s, nI_1, fX11_passes_21, bn_s, gz_1]
    refine Or.inl ⟨e1, rfl, _, _, rfl, rfl, TX_go hX, ⟨by simp (disch := omega) only [sU_s, sU_n]; exact b1, by simp (disch := omega) only [sU_s, sU_n]; exact nI_1 r, fun k hk => by simp (disch := omega) only [sU_s, sU_n]; exact b3 k hk⟩, FX_go, by simp (disch := omega) only [sU_s, sU_n], ⟨fun i p q => by simp (disch := omega) only [sU_s, sU_n], fun i p q => by simp (disch := omega) only [sU_s, sU_n]⟩, by simp (disch := omega) only [sU_s, sU_n], by simp (disch := omega) only [sU_s, sU_n]⟩
  · rw [if_neg (show ¬ (r < tl ∧ s ≤ c r ∧ c r ≤ s) by omega), if_pos rfl, fX11_passes_21, bn_s, bn_s, gz_0]
    refine Or.inr ⟨e, ?_, _, rfl, ⟨fun i p q => by simp (disch := omega) only [sU_s, sU_n], fun i p q => by simp (disch := omega) only [sU_s, sU_n]⟩⟩
    by_cases e1 : r < tl
    · have := g2 r e1
      rw [if_neg (nI_ge e1 (by omega)), gi_nI (by omega) (by decide), cl_nI (by omega), a3 r e1, if_neg (fun q => e ⟨e1, (nI_eq (by omega) (by omega)).mp q⟩)]
    · rw [if_pos (nI_le (by omega) (by omega))]
def dg (c : Nat → Nat) (tl k : Nat) : Prop := k < tl ∧ 48 ≤ c k ∧ c k ≤ 57
theorem X_digit {S : T2} {c : Nat → Nat} {tl r : Nat} (hg : GT c tl) (hr : r ≤ tl) (hX : TX S c tl r) : (dg c tl r ∧ fX7_isDigitAhead S = some 1) ∨ (¬ dg c tl r ∧ fX7_isDigitAhead S = some 0) := by
  obtain ⟨g1, g2⟩ := id hg
  obtain ⟨a1, a2, a3⟩ := id hX
  unfold dg
  rw [fX7_isDigitAhead, a1, a2]
  by_cases e1 : r < tl
  · have := g2 r e1
    rw [if_neg (nI_ge e1 (by omega)), gi_nI (by omega) (by decide), gi_nI (by omega) (by decide), cl_nI (by omega), a3 r e1]
    by_cases e2 : c r < 48
    · rw [if_pos (show nI (c r) < 48 from nI_lt (b := 48) e2 (by decide))]
      exact Or.inr ⟨by omega, rfl⟩
    · rw [if_neg (show ¬ nI (c r) < 48 from nI_nlt (b := 48) (by omega) (by omega))]
      by_cases e3 : 57 < c r
      · rw [if_pos (show (57 : Int32) < nI (c r) from nI_lt (a := 57) e3 (by omega))]
        exact Or.inr ⟨by omega, rfl⟩
      · rw [if_neg (show ¬ (57 : Int32) < nI (c r) from nI_nlt (a := 57) (by omega) (by decide))]
        exact Or.inl ⟨by omega, rfl⟩
  · rw [if_pos (nI_le (by omega) (by omega))]
    exact Or.inr ⟨fun q => e1 q.1, rfl⟩
theorem num_lp {c : Nat → Nat} {tl r p : Nat} (hp : p < 2) (hg : GT c tl) : ∀ (n k : Nat) (S σ : T2) (v : Int32), k ≤ 3 → 3 - k < n → r + k ≤ tl → TX S c tl (r + k) → TM σ c tl (r + k) → σ 5 p = v → ∃ k' S' σ' v', k ≤ k' ∧ r + k' ≤ tl ∧ (k < 3 → dg c tl (r + k) → k < k') ∧ (¬ dg c tl (r + k) → k' = k) ∧ fX7_readNumber_4 n S v (nI k) = some (v', S') ∧ fX11_number_23 (nI p) n σ (nI r) = fX11_number_85 (nI p) σ' (nI r) ∧ TX S' c tl (r + k') ∧ TM σ' c tl (r + k') ∧ σ' 5 p = v' ∧ FX S S' ∧ S' 1 = S 1 ∧ FR σ σ' ∧ (∀ i, i ≠ p → σ' 5 i = σ 5 i) ∧ σ' 6 7 = σ 6 7 := by
  intro n
  induction n with
  | zero => intro k S σ v h1 h2; omega
  | succ n ih =>
    intro k S σ v h1 h2 h3 hX hM hv
    obtain ⟨g1, g2⟩ := id hg
    obtain ⟨a1, a2, a3⟩ := id hX
    obtain ⟨b1, b2, b3⟩ := id hM
    rw [fX7_readNumber_4, fX11_number_23, show fX11_isAt_ σ 48 57 = _ from M_at (lo := 48) (hi := 57) hg h3 hM (by decide) (by decide), bd_s, b2, pk_sub (by omega), show r + k - r = k by omega]
    by_cases e3 : k = 3
    · subst e3
      rw [if_pos (show (3 : Int32) ≤ nI 3 by decide)]
      refine ⟨3, S, σ, v, by omega, h3, fun h => absurd h (by omega), fun _ => rfl, rfl, ?_, hX, hM, hv, FX_rf S, rfl, FR_rf σ, fun _ _ => rfl, rfl⟩
      rw [if_pos (show (3 : Int32) ≤ nI 3 by decide), ite_self]
    · rw [if_neg (show ¬ (3 : Int32) ≤ nI k from nI_ge (b := 3) (by omega) (by decide))]
      rcases X_digit hg h3 hX with ⟨d1, d2⟩ | ⟨d1, d2⟩
      · obtain ⟨d3, d4, d5⟩ := id d1
        rw [d2, bd_s, if_neg ne10, if_pos (show r + k < tl ∧ 48 ≤ c (r + k) ∧ c (r + k) ≤ 57 from d1), if_neg ne10, if_neg (show ¬ (3 : Int32) ≤ nI k from nI_ge (b := 3) (by omega) (by decide)), a2, gi_nI (by omega) (by decide), gi_nI hp (by decide), gi_nI (by omega) (by decide), gi_nI hp (by decide), cl_nI (by omega), cl_nI (by omega), a3 _ d3, b3 _ d3, hv]
        simp (disch := omega) only [bn_s, sU_s, sU_n, sU_sU, b2, nI_1]
        obtain ⟨k', S', σ', v', q1, q2, -, -, q5, q6, q7, q8, q9, q10, q11, q12, q13, q14⟩ := ih (k + 1) (sU S 2 (sU (S 2) 5 (nI (r + k + 1)))) (sU (sU σ 5 (sU (σ 5) p ((10 : Int32) * v + nI (c (r + k)) - 48))) 6 (sU (σ 6) 4 (nI (r + k + 1)))) ((10 : Int32) * v + nI (c (r + k)) - 48) (by omega) (by omega) (by omega) (TX_go hX) ⟨by simp (disch := omega) only [sU_s, sU_n]; exact b1, by simp (disch := omega) only [sU_s, sU_n]; rfl, fun k hk => by simp (disch := omega) only [sU_s, sU_n]; exact b3 k hk⟩ (by simp (disch := omega) only [sU_s, sU_n])
        refine ⟨k', S', σ', v', by omega, q2, fun _ _ => by omega, fun q => absurd d1 q, ?_, q6, q7, q8, q9, FX_tr FX_go q10, q11.trans (by simp (disch := omega) only [sU_n]), FR_tr ⟨fun i p q => by simp (disch := omega) only [sU_n], fun i p q => by simp (disch := omega) only [sU_s, sU_n]⟩ q12, fun i hi => (q13 i hi).trans (by simp (disch := omega) only [sU_s, sU_n]), q14.trans (by simp (disch := omega) only [sU_s, sU_n])⟩
        rw [Int32.mul_comm v 10]
        exact q5
      · rw [d2, bd_s, if_pos rfl, if_neg (show ¬ (r + k < tl ∧ 48 ≤ c (r + k) ∧ c (r + k) ≤ 57) from d1), if_pos rfl]
        exact ⟨k, S, σ, v, by omega, h3, fun _ q => absurd q d1, fun _ => rfl, rfl, rfl, hX, hM, hv, FX_rf S, rfl, FR_rf σ, fun _ _ => rfl, rfl⟩
