/-! MATH 16: words of the text, as the class finds them and as the reference does -/
def wl : Nat → Nat
  | 0 => 4
  | 1 => 4
  | 2 => 4
  | 3 => 5
  | 4 => 4
  | 5 => 3
  | 6 => 2
  | 7 => 4
  | 8 => 4
  | 9 => 4
  | _ => 4
def wn : Nat → Nat → Nat
  | 0, 0 => 114
  | 0, 1 => 101
  | 0, 2 => 110
  | 0, 3 => 116
  | 1, 0 => 98
  | 1, 1 => 97
  | 1, 2 => 99
  | 1, 3 => 107
  | 2, 0 => 102
  | 2, 1 => 117
  | 2, 2 => 108
  | 2, 3 => 108
  | 3, 0 => 102
  | 3, 1 => 97
  | 3, 2 => 117
  | 3, 3 => 108
  | 3, 4 => 116
  | 4, 0 => 116
  | 4, 1 => 97
  | 4, 2 => 107
  | 4, 3 => 101
  | 5, 0 => 112
  | 5, 1 => 117
  | 5, 2 => 116
  | 6, 0 => 103
  | 6, 1 => 111
  | 7, 0 => 109
  | 7, 1 => 101
  | 7, 2 => 110
  | 7, 3 => 100
  | 8, 0 => 112
  | 8, 1 => 97
  | 8, 2 => 115
  | 8, 3 => 115
  | 9, 0 => 119
  | 9, 1 => 97
  | 9, 2 => 105
  | 9, 3 => 116
  | _, _ => 0
def vc : Nat → Nat
  | 0 => 595412
  | 1 => 66667
  | 2 => 218508
  | 3 => 6346132
  | 4 => 656741
  | 5 => 17076
  | 6 => 239
  | 7 => 431556
  | 8 => 525939
  | 9 => 754996
  | _ => 0
/-- how many numbers a verb takes, less one, turned round: 1 if it takes one -/
def vo (e : Nat) : Int32 := if e = 3 ∨ e = 8 ∨ e = 9 then 1 else 0
def nn (e : Nat) : Nat := if e = 3 ∨ e = 8 ∨ e = 9 then 1 else 2
def fX7_isAhead_l (S : T2) (e : Nat) : Nat → Int32 → Option Int32
  | 0, _ => none
  | n + 1, i => if nI (wl e) ≤ i then some 1 else gi (S 2 5 + i) 60 (if S 0 (S 2 5 + i).toNatClampNeg = nI (wn e i.toNatClampNeg) then fX7_isAhead_l S e n (i + 1) else some 0)
def fX7_isAhead (S : T2) (e : Nat) : Option Int32 := if S 2 0 < S 2 5 + nI (wl e) then some 0 else fX7_isAhead_l S e fuel 0
def fX7_readVerb_l (S : T2) : Nat → Int32 → Option (Option Nat × T2)
  | 0, _ => none
  | n + 1, i => if 10 ≤ i then some (none, S) else bd (fX7_isAhead S i.toNatClampNeg) (fun q => if q = 0 then fX7_readVerb_l S n (i + 1) else some (some i.toNatClampNeg, sU S 2 (sU (S 2) 5 (S 2 5 + nI (wl i.toNatClampNeg)))))
def fX7_readVerb (S : T2) : Option (Option Nat × T2) := fX7_readVerb_l S fuel 0
def TX (S : T2) (c : Nat → Nat) (tl r : Nat) : Prop := S 2 0 = nI tl ∧ S 2 5 = nI r ∧ ∀ k, k < tl → S 0 k = nI (c k)
def TM (σ : T2) (c : Nat → Nat) (tl r : Nat) : Prop := σ 6 3 = nI tl ∧ σ 6 4 = nI r ∧ ∀ k, k < tl → σ 4 k = nI (c k)
def FR (σ σ' : T2) : Prop := (∀ i, i ≠ 5 → i ≠ 6 → σ' i = σ i) ∧ (∀ i, i ≠ 4 → i ≠ 7 → σ' 6 i = σ 6 i)
def FX (S S' : T2) : Prop := S' 0 = S 0 ∧ ∀ i, i ≠ 5 → S' 2 i = S 2 i
theorem FR_tr {a b c : T2} (h : FR a b) (k : FR b c) : FR a c := ⟨fun i p q => (k.1 i p q).trans (h.1 i p q), fun i p q => (k.2 i p q).trans (h.2 i p q)⟩
theorem FX_tr {a b c : T2} (h : FX a b) (k : FX b c) : FX a c := ⟨k.1.trans h.1, fun i p => (k.2 i p).trans (h.2 i p)⟩
theorem FR_rf (a : T2) : FR a a := ⟨fun _ _ _ => rfl, fun _ _ _ => rfl⟩
theorem FX_rf (a : T2) : FX a a := ⟨rfl, fun _ _ => rfl⟩
def GT (c : Nat → Nat) (tl : Nat) : Prop := tl ≤ 60 ∧ ∀ k, k < tl → 32 ≤ c k ∧ c k ≤ 126
theorem M_at {σ : T2} {c : Nat → Nat} {tl r lo hi : Nat} (hg : GT c tl) (hr : r ≤ tl) (h : TM σ c tl r) (hhi : hi < 1000) (hlo : lo < 1000) : fX11_isAt_ σ (nI lo) (nI hi) = some (if r < tl ∧ lo ≤ c r ∧ c r ≤ hi then 1 else 0) := by
  obtain ⟨g1, g2⟩ := hg
  obtain ⟨a1, a2, a3⟩ := h
  rw [fX11_isAt_, a1, a2]
  by_cases e : r < tl
  · have := g2 r e
    rw [if_neg (nI_ge e (by omega)), gi_nI (by omega) (by decide), cl_nI (by omega), a3 r e]
    by_cases b1 : c r < lo
    · rw [M_in0 (nI_lt b1 (by omega)), bd_s, if_pos rfl, if_neg (by omega)]
    · by_cases b2 : hi < c r
      · rw [M_in1 (nI_nlt (by omega) (by omega)) (nI_lt b2 (by omega)), bd_s, if_pos rfl, if_neg (by omega)]
      · rw [M_in2 (nI_nlt (by omega) (by omega)) (nI_nlt (by omega) (by omega)), bd_s, if_neg ne10, if_pos (by omega)]
  · rw [if_pos (nI_le (by omega) (by omega)), if_neg (by omega)]
def ltr (c : Nat → Nat) (tl k : Nat) : Prop := k < tl ∧ 97 ≤ c k ∧ c k ≤ 122
def kd (c : Nat → Nat) (r : Nat) : Nat → Nat
  | 0 => 0
  | j + 1 => 32 * kd c r j + (c (r + j) - 96)
theorem M_word {c : Nat → Nat} {tl r : Nat} (hg : GT c tl) : ∀ (n j : Nat) (σ : T2), TM σ c tl (r + j) → j ≤ 5 → r + j ≤ tl → (∀ i, i < j → ltr c tl (r + i)) → σ 6 7 = nI (kd c r j) → 5 - j < n → ∃ L σ', L ≤ 5 ∧ r + L ≤ tl ∧ (∀ i, i < L → ltr c tl (r + i)) ∧ (L = 5 ∨ ¬ ltr c tl (r + L)) ∧ fX11_parses_10 n σ (nI r) = fX11_parses_68 σ' ∧ TM σ' c tl (r + L) ∧ σ' 6 7 = nI (kd c r L) ∧ FR σ σ' := by
  intro n
  induction n with
  | zero => intro j σ h1 h2 h3 h4 h5 h6; omega
  | succ n ih =>
    intro j σ h1 h2 h3 h4 h5 h6
    obtain ⟨g1, g2⟩ := id hg
    obtain ⟨a1, a2, a3⟩ := id h1
    rw [fX11_parses_10, show fX11_isAt_ σ 97 122 = _ from M_at (lo := 97) (hi := 122) hg h3 h1 (by decide) (by decide), bd_s]
    by_cases e : ltr c tl (r + j)
    · rw [if_pos (show r + j < tl ∧ 97 ≤ c (r + j) ∧ c (r + j) ≤ 122 from e), if_neg ne10, a2, pk_sub (by omega), show r + j - r = j by omega]
      by_cases e5 : j = 5
      · rw [if_pos (show (5 : Int32) ≤ nI j from nI_le (a := 5) (by omega) (by omega))]
        exact ⟨j, σ, h2, h3, h4, Or.inl e5, rfl, h1, h5, FR_rf σ⟩
      · have hlt : r + j < tl := e.1
        have hle : 97 ≤ c (r + j) := e.2.1
        have hd : (32 : Int32) * nI (kd c r j) + nI (c (r + j)) - 96 = nI (kd c r (j + 1)) := by
          rw [show (32 : Int32) = nI 32 from rfl, pk_mul, nI_add, show (96 : Int32) = nI 96 from rfl, pk_sub (by omega), kd]
          congr 1
          omega
        rw [if_neg (show ¬ (5 : Int32) ≤ nI j from nI_ge (b := 5) (by omega) (by decide)), gi_nI (by omega) (by decide), cl_nI (by omega), a3 _ hlt, h5, hd]
        simp (disch := omega) only [bn_s, sU_s, sU_n, sU_sU, a2, nI_1]
        obtain ⟨L, σ', q1, q2, q3, q4, q5, q6, q7, q8⟩ := ih (j + 1) (sU σ 6 (sU (sU (σ 6) 7 (nI (kd c r (j + 1)))) 4 (nI (r + j + 1)))) ⟨by simp (disch := omega) only [sU_s, sU_n]; exact a1, by simp (disch := omega) only [sU_s, sU_n]; rfl, fun k hk => by simp (disch := omega) only [sU_s, sU_n]; exact a3 k hk⟩ (by omega) (by omega) (fun i hi => by
          by_cases ei : i = j
          · rw [ei]; exact e
          · exact h4 i (by omega)) (by simp (disch := omega) only [sU_s, sU_n]) (by omega)
        refine ⟨L, σ', q1, q2, q3, q4, q5, q6, q7, FR_tr ⟨fun i p q => ?_, fun i p q => ?_⟩ q8⟩
        · simp (disch := omega) only [sU_n]
        · simp (disch := omega) only [sU_s, sU_n]
    · rw [if_neg (show ¬ (r + j < tl ∧ 97 ≤ c (r + j) ∧ c (r + j) ≤ 122) from e), if_pos rfl]
      exact ⟨j, σ, h2, h3, h4, Or.inr e, rfl, h1, h5, FR_rf σ⟩
theorem M_68 {σ : T2} {K : Nat} (hK : K < 2 ^ 31) (h : σ 6 7 = nI K) : (∃ e, e < 10 ∧ K = vc e ∧ fX11_parses_68 σ = fX11_parses_180 σ (vo e)) ∨ ((∀ e, e < 10 → ¬ K = vc e) ∧ fX11_parses_68 σ = some (0, σ)) := by
  have ne : ∀ v, v < 2 ^ 31 → ¬ K = v → ¬ nI K = nI v := fun v hv hn e => hn ((nI_eq hK hv).mp e)
  rw [fX11_parses_68, h]
  by_cases e3 : K = 6346132
  · subst e3
    refine Or.inl ⟨3, by decide, by decide, ?_⟩
    rw [if_pos (show nI 6346132 = 6346132 from rfl), fX11_parses_95, fX11_parses_100, h, if_neg (show ¬ nI 6346132 = 595412 by decide), if_neg (show ¬ nI 6346132 = 66667 by decide), if_neg (show ¬ nI 6346132 = 218508 by decide), if_neg (show ¬ nI 6346132 = 656741 by decide), if_neg (show ¬ nI 6346132 = 17076 by decide), if_neg (show ¬ nI 6346132 = 239 by decide), if_neg (show ¬ nI 6346132 = 431556 by decide), fX11_parses_171, if_neg ne10]
    rfl
  by_cases e8 : K = 525939
  · subst e8
    refine Or.inl ⟨8, by decide, by decide, ?_⟩
    rw [if_neg (show ¬ nI 525939 = 6346132 by decide), if_pos (show nI 525939 = 525939 from rfl), fX11_parses_95, fX11_parses_100, h, if_neg (show ¬ nI 525939 = 595412 by decide), if_neg (show ¬ nI 525939 = 66667 by decide), if_neg (show ¬ nI 525939 = 218508 by decide), if_neg (show ¬ nI 525939 = 656741 by decide), if_neg (show ¬ nI 525939 = 17076 by decide), if_neg (show ¬ nI 525939 = 239 by decide), if_neg (show ¬ nI 525939 = 431556 by decide), fX11_parses_171, if_neg ne10]
    rfl
  by_cases e9 : K = 754996
  · subst e9
    refine Or.inl ⟨9, by decide, by decide, ?_⟩
    rw [if_neg (show ¬ nI 754996 = 6346132 by decide), if_neg (show ¬ nI 754996 = 525939 by decide), if_pos (show nI 754996 = 754996 from rfl), fX11_parses_95, fX11_parses_100, h, if_neg (show ¬ nI 754996 = 595412 by decide), if_neg (show ¬ nI 754996 = 66667 by decide), if_neg (show ¬ nI 754996 = 218508 by decide), if_neg (show ¬ nI 754996 = 656741 by decide), if_neg (show ¬ nI 754996 = 17076 by decide), if_neg (show ¬ nI 754996 = 239 by decide), if_neg (show ¬ nI 754996 = 431556 by decide), fX11_parses_171, if_neg ne10]
    rfl
  by_cases e0 : K = 595412
  · subst e0
    refine Or.inl ⟨0, by decide, by decide, ?_⟩
    rw [if_neg (show ¬ nI 595412 = 6346132 by decide), if_neg (show ¬ nI 595412 = 525939 by decide), if_neg (show ¬ nI 595412 = 754996 by decide), fX11_parses_100, h, if_pos (show nI 595412 = 595412 from rfl), fX11_parses_166, fX11_parses_171, if_pos rfl, if_neg ne10]
    rfl
  by_cases e1 : K = 66667
  · subst e1
    refine Or.inl ⟨1, by decide, by decide, ?_⟩
    rw [if_neg (show ¬ nI 66667 = 6346132 by decide), if_neg (show ¬ nI 66667 = 525939 by decide), if_neg (show ¬ nI 66667 = 754996 by decide), fX11_parses_100, h, if_neg (show ¬ nI 66667 = 595412 by decide), if_pos (show nI 66667 = 66667 from rfl), fX11_parses_166, fX11_parses_171, if_pos rfl, if_neg ne10]
    rfl
  by_cases e2 : K = 218508
  · subst e2
    refine Or.inl ⟨2, by decide, by decide, ?_⟩
    rw [if_neg (show ¬ nI 218508 = 6346132 by decide), if_neg (show ¬ nI 218508 = 525939 by decide), if_neg (show ¬ nI 218508 = 754996 by decide), fX11_parses_100, h, if_neg (show ¬ nI 218508 = 595412 by decide), if_neg (show ¬ nI 218508 = 66667 by decide), if_pos (show nI 218508 = 218508 from rfl), fX11_parses_166, fX11_parses_171, if_pos rfl, if_neg ne10]
    rfl
  by_cases e4 : K = 656741
  · subst e4
    refine Or.inl ⟨4, by decide, by decide, ?_⟩
    rw [if_neg (show ¬ nI 656741 = 6346132 by decide), if_neg (show ¬ nI 656741 = 525939 by decide), if_neg (show ¬ nI 656741 = 754996 by decide), fX11_parses_100, h, if_neg (show ¬ nI 656741 = 595412 by decide), if_neg (show ¬ nI 656741 = 66667 by decide), if_neg (show ¬ nI 656741 = 218508 by decide), if_pos (show nI 656741 = 656741 from rfl), fX11_parses_166, fX11_parses_171, if_pos rfl, if_neg ne10]
    rfl
  by_cases e5 : K = 17076
  · subst e5
    refine Or.inl ⟨5, by decide, by decide, ?_⟩
    rw [if_neg (show ¬ nI 17076 = 6346132 by decide), if_neg (show ¬ nI 17076 = 525939 by decide), if_neg (show ¬ nI 17076 = 754996 by decide), fX11_parses_100, h, if_neg (show ¬ nI 17076 = 595412 by decide), if_neg (show ¬ nI 17076 = 66667 by decide), if_neg (show ¬ nI 17076 = 218508 by decide), if_neg (show ¬ nI 17076 = 656741 by decide), if_pos (show nI 17076 = 17076 from rfl), fX11_parses_166, fX11_parses_171, if_pos rfl, if_neg ne10]
    rfl
  by_cases e6 : K = 239
  · subst e6
    refine Or.inl ⟨6, by decide, by decide, ?_⟩
    rw [if_neg (show ¬ nI 239 = 6346132 by decide), if_neg (show ¬ nI 239 = 525939 by decide), if_neg (show ¬ nI 239 = 754996 by decide), fX11_parses_100, h, if_neg (show ¬ nI 239 = 595412 by decide), if_neg (show ¬ nI 239 = 66667 by decide), if_neg (show ¬ nI 239 = 218508 by decide), if_neg (show ¬ nI 239 = 656741 by decide), if_neg (show ¬ nI 239 = 17076 by decide), if_pos (show nI 239 = 239 from rfl), fX11_parses_166, fX11_parses_171, if_pos rfl, if_neg ne10]
    rfl
  by_cases e7 : K = 431556
  · subst e7
    refine Or.inl ⟨7, by decide, by decide, ?_⟩
    rw [if_neg (show ¬ nI 431556 = 6346132 by decide), if_neg (show ¬ nI 431556 = 525939 by decide), if_neg (show ¬ nI 431556 = 754996 by decide), fX11_parses_100, h, if_neg (show ¬ nI 431556 = 595412 by decide), if_neg (show ¬ nI 431556 = 66667 by decide), if_neg (show ¬ nI 431556 = 218508 by decide), if_neg (show ¬ nI 431556 = 656741 by decide), if_neg (show ¬ nI 431556 = 17076 by decide), if_neg (show ¬ nI 431556 = 239 by decide), if_pos (show nI 431556 = 431556 from rfl), fX11_parses_166, fX11_parses_171, if_pos rfl, if_neg ne10]
    rfl
  refine Or.inr ⟨fun e he => ?_, ?_⟩
  · rcases (show e = 0 ∨ e = 1 ∨ e = 2 ∨ e = 3 ∨ e = 4 ∨ e = 5 ∨ e = 6 ∨ e = 7 ∨ e = 8 ∨ e = 9 by omega) with rfl | rfl | rfl | rfl | rfl | rfl | rfl | rfl | rfl | rfl
    · exact e0
    · exact e1
    · exact e2
    · exact e3
    · exact e4
    · exact e5
    · exact e6
    · exact e7
    · exact e8
    · exact e9
  · rw [if_neg (show ¬ nI K = 6346132 from ne 6346132 (by decide) e3), if_neg (show ¬ nI K = 525939 from ne 525939 (by decide) e8), if_neg (show ¬ nI K = 754996 from ne 754996 (by decide) e9), fX11_parses_100, h, if_neg (show ¬ nI K = 595412 from ne 595412 (by decide) e0), if_neg (show ¬ nI K = 66667 from ne 66667 (by decide) e1), if_neg (show ¬ nI K = 218508 from ne 218508 (by decide) e2), if_neg (show ¬ nI K = 656741 from ne 656741 (by decide) e4), if_neg (show ¬ nI K = 17076 from ne 17076 (by decide) e5), if_neg (show ¬ nI K = 239 from ne 239 (by decide) e6), if_neg (show ¬ nI K = 431556 from ne 431556 (by decide) e7), fX11_parses_171, if_pos rfl, if_pos rfl]
def ah (c : Nat → Nat) (tl r e : Nat) : Prop := r + wl e ≤ tl ∧ ∀ i, i < wl e → c (r + i) = wn e i
theorem wl5 : ∀ e, e < 10 → wl e ≤ 5 ∧ 2 ≤ wl e := by decide
theorem X_ahead_lp {S : T2} {c : Nat → Nat} {tl r e : Nat} (he : e < 10) (hg : GT c tl) (h : TX S c tl r) (h2 : r + wl e ≤ tl) (hw : ∀ i, i < wl e → wn e i < 1000) : ∀ (n j : Nat), j ≤ wl e → wl e - j < n → (∀ i, i < j → c (r + i) = wn e i) → (ah c tl r e ∧ fX7_isAhead_l S e n (nI j) = some 1) ∨ (¬ ah c tl r e ∧ fX7_isAhead_l S e n (nI j) = some 0) := by
  obtain ⟨g1, g2⟩ := id hg
  obtain ⟨a1, a2, a3⟩ := id h
  have := wl5 e he
  intro n
  induction n with
  | zero => intro j h1 h2; omega
  | succ n ih =>
    intro j h1 h2 h3
    rw [fX7_isAhead_l, a2]
    by_cases hj : j = wl e
    · rw [if_pos (nI_le (by omega) (by omega))]
      exact Or.inl ⟨⟨by omega, fun i hi => h3 i (by omega)⟩, rfl⟩
    · rw [if_neg (nI_ge (by omega) (by omega)), nI_add, gi_nI (by omega) (by decide), cl_nI (by omega), cl_nI (by omega), a3 (r + j) (by omega)]
      have q := g2 (r + j) (by omega)
      by_cases e1 : c (r + j) = wn e j
      · rw [if_pos (by rw [e1]), nI_1]
        exact ih (j + 1) (by omega) (by omega) (fun i hi => by
          by_cases ei : i = j
          · rw [ei]; exact e1
          · exact h3 i (by omega))
      · rw [if_neg (fun z => e1 ((nI_eq (by omega) (by have := hw j (by omega); omega)).mp z))]
        exact Or.inr ⟨fun z => e1 (z.2 j (by omega)), rfl⟩
theorem wn_b : ∀ e, e < 10 → ∀ i, i < wl e → wn e i < 1000 ∧ 97 ≤ wn e i ∧ wn e i ≤ 122 := by decide
theorem X_ahead {S : T2} {c : Nat → Nat} {tl r e : Nat} (he : e < 10) (hg : GT c tl) (hr : r ≤ tl) (h : TX S c tl r) : (ah c tl r e ∧ fX7_isAhead S e = some 1) ∨ (¬ ah c tl r e ∧ fX7_isAhead S e = some 0) := by
  have g1 : tl ≤ 60 := hg.1
  have := wl5 e he
  rw [fX7_isAhead, h.1, h.2.1, nI_add]
  by_cases c1 : tl < r + wl e
  · rw [if_pos (nI_lt c1 (by omega))]
    exact Or.inr ⟨fun z => by have := z.1; omega, rfl⟩
  · rw [if_neg (nI_nlt (by omega) (by omega))]
    exact X_ahead_lp he hg h (by omega) (fun i hi => (wn_b e he i hi).1) fuel 0 (by omega) (by unfold fuel; omega) (fun i hi => absurd hi (by omega))
theorem X_verb_lp {S : T2} {c : Nat → Nat} {tl r : Nat} (hg : GT c tl) (hr : r ≤ tl) (h : TX S c tl r) : ∀ (n j : Nat), j ≤ 10 → 10 - j < n → (∀ e, e < j → ¬ ah c tl r e) → (∃ e, e < 10 ∧ ah c tl r e ∧ fX7_readVerb_l S n (nI j) = some (some e, sU S 2 (sU (S 2) 5 (nI (r + wl e))))) ∨ ((∀ e, e < 10 → ¬ ah c tl r e) ∧ fX7_readVerb_l S n (nI j) = some (none, S)) := by
  intro n
  induction n with
  | zero => intro j h1 h2; omega
  | succ n ih =>
    intro j h1 h2 h3
    rw [fX7_readVerb_l]
    by_cases hj : j = 10
    · subst hj
      rw [if_pos (show (10 : Int32) ≤ nI 10 by decide)]
      exact Or.inr ⟨h3, rfl⟩
    · rw [if_neg (show ¬ (10 : Int32) ≤ nI j from nI_ge (b := 10) (by omega) (by decide)), cl_nI (by omega)]
      rcases X_ahead (e := j) (by omega) hg hr h with ⟨q1, q2⟩ | ⟨q1, q2⟩
      · rw [q2, bd_s, if_neg ne10, h.2.1, nI_add]
        exact Or.inl ⟨j, by omega, q1, rfl⟩
      · rw [q2, bd_s, if_pos rfl, nI_1]
        exact ih (j + 1) (by omega) (by omega) (fun e he => by
          by_cases ei : e = j
          · rw [ei]; exact q1
          · exact h3 e (by omega))
/-- a code tells its word -/
theorem code_inv {c : Nat → Nat} {tl r L e : Nat} (hL : L ≤ 5) (he : e < 10) (h : ∀ i, i < L → ltr c tl (r + i)) (hrl : r + L ≤ tl) (hk : kd c r L = vc e) : L = wl e ∧ ah c tl r e := by
  have l0 : 0 < L → ltr c tl (r + 0) := h 0
  have l1 : 1 < L → ltr c tl (r + 1) := h 1
  have l2 : 2 < L → ltr c tl (r + 2) := h 2
  have l3 : 3 < L → ltr c tl (r + 3) := h 3
  have l4 : 4 < L → ltr c tl (r + 4) := h 4
  unfold ltr at l0 l1 l2 l3 l4
  have hz : kd c r 0 = 0 := rfl
  have h1 : kd c r 1 = 32 * kd c r 0 + (c (r + 0) - 96) := rfl
  have h2 : kd c r 2 = 32 * kd c r 1 + (c (r + 1) - 96) := rfl
  have h3 : kd c r 3 = 32 * kd c r 2 + (c (r + 2) - 96) := rfl
  have h4 : kd c r 4 = 32 * kd c r 3 + (c (r + 3) - 96) := rfl
  have h5 : kd c r 5 = 32 * kd c r 4 + (c (r + 4) - 96) := rfl
  rcases (show e = 0 ∨ e = 1 ∨ e = 2 ∨ e = 3 ∨ e = 4 ∨ e = 5 ∨ e = 6 ∨ e = 7 ∨ e = 8 ∨ e = 9 by omega) with rfl | rfl | rfl | rfl | rfl | rfl | rfl | rfl | rfl | rfl
  · have hk2 : kd c r L = 595412 := hk
    have e9 : L = 4 := by
      rcases (show L = 0 ∨ L = 1 ∨ L = 2 ∨ L = 3 ∨ L = 4 ∨ L = 5 by omega) with rfl | rfl | rfl | rfl | rfl | rfl <;> omega
    subst e9
    refine ⟨rfl, hrl, fun i hi => ?_⟩
    have hi2 : i < 4 := hi
    rcases (show i = 0 ∨ i = 1 ∨ i = 2 ∨ i = 3 by omega) with rfl | rfl | rfl | rfl
    · show c (r + 0) = 114; omega
    · show c (r + 1) = 101; omega
    · show c (r + 2) = 110; omega
    · show c (r + 3) = 116; omega
  · have hk2 : kd c r L = 66667 := hk
    have e9 : L = 4 := by
      rcases (show L = 0 ∨ L = 1 ∨ L = 2 ∨ L = 3 ∨ L = 4 ∨ L = 5 by omega) with rfl | rfl | rfl | rfl | rfl | rfl <;> omega
    subst e9
    refine ⟨rfl, hrl, fun i hi => ?_⟩
    have hi2 : i < 4 := hi
    rcases (show i = 0 ∨ i = 1 ∨ i = 2 ∨ i = 3 by omega) with rfl | rfl | rfl | rfl
    · show c (r + 0) = 98; omega
    · show c (r + 1) = 97; omega
    · show c (r + 2) = 99; omega
    · show c (r + 3) = 107; omega
  · have hk2 : kd c r L = 218508 := hk
    have e9 : L = 4 := by
      rcases (show L = 0 ∨ L = 1 ∨ L = 2 ∨ L = 3 ∨ L = 4 ∨ L = 5 by omega) with rfl | rfl | rfl | rfl | rfl | rfl <;> omega
    subst e9
    refine ⟨rfl, hrl, fun i hi => ?_⟩
    have hi2 : i < 4 := hi
    rcases (show i = 0 ∨ i = 1 ∨ i = 2 ∨ i = 3 by omega) with rfl | rfl | rfl | rfl
    · show c (r + 0) = 102; omega
    · show c (r + 1) = 117; omega
    · show c (r + 2) = 108; omega
    · show c (r + 3) = 108; omega
  · have hk2 : kd c r L = 6346132 := hk
    have e9 : L = 5 := by
      rcases (show L = 0 ∨ L = 1 ∨ L = 2 ∨ L = 3 ∨ L = 4 ∨ L = 5 by omega) with rfl | rfl | rfl | rfl | rfl | rfl <;> omega
    subst e9
    refine ⟨rfl, hrl, fun i hi => ?_⟩
    have hi2 : i < 5 := hi
    rcases (show i = 0 ∨ i = 1 ∨ i = 2 ∨ i = 3 ∨ i = 4 by omega) with rfl | rfl | rfl | rfl | rfl
    · show c (r + 0) = 102; omega
    · show c (r + 1) = 97; omega
    · show c (r + 2) = 117; omega
    · show c (r + 3) = 108; omega
    · show c (r + 4) = 116; omega
  · have hk2 : kd c r L = 656741 := hk
    have e9 : L = 4 := by
      rcases (show L = 0 ∨ L = 1 ∨ L = 2 ∨ L = 3 ∨ L = 4 ∨ L = 5 by omega) with rfl | rfl | rfl | rfl | rfl | rfl <;> omega
    subst e9
    refine ⟨rfl, hrl, fun i hi => ?_⟩
    have hi2 : i < 4 := hi
    rcases (show i = 0 ∨ i = 1 ∨ i = 2 ∨ i = 3 by omega) with rfl | rfl | rfl | rfl
    · show c (r + 0) = 116; omega
    · show c (r + 1) = 97; omega
    · show c (r + 2) = 107; omega
    · show c (r + 3) = 101; omega
  · have hk2 : kd c r L = 17076 := hk
    have e9 : L = 3 := by
      rcases (show L = 0 ∨ L = 1 ∨ L = 2 ∨ L = 3 ∨ L = 4 ∨ L = 5 by omega) with rfl | rfl | rfl | rfl | rfl | rfl <;> omega
    subst e9
    refine ⟨rfl, hrl, fun i hi => ?_⟩
    have hi2 : i < 3 := hi
    rcases (show i = 0 ∨ i = 1 ∨ i = 2 by omega) with rfl | rfl | rfl
    · show c (r + 0) = 112; omega
    · show c (r + 1) = 117; omega
    · show c (r + 2) = 116; omega
  · have hk2 : kd c r L = 239 := hk
    have e9 : L = 2 := by
      rcases (show L = 0 ∨ L = 1 ∨ L = 2 ∨ L = 3 ∨ L = 4 ∨ L = 5 by omega) with rfl | rfl | rfl | rfl | rfl | rfl <;> omega
    subst e9
    refine ⟨rfl, hrl, fun i hi => ?_⟩
    have hi2 : i < 2 := hi
    rcases (show i = 0 ∨ i = 1 by omega) with rfl | rfl
    · show c (r + 0) = 103; omega
    · show c (r + 1) = 111; omega
  · have hk2 : kd c r L = 431556 := hk
    have e9 : L = 4 := by
      rcases (show L = 0 ∨ L = 1 ∨ L = 2 ∨ L = 3 ∨ L = 4 ∨ L = 5 by omega) with rfl | rfl | rfl | rfl | rfl | rfl <;> omega
    subst e9
    refine ⟨rfl, hrl, fun i hi => ?_⟩
    have hi2 : i < 4 := hi
    rcases (show i = 0 ∨ i = 1 ∨ i = 2 ∨ i = 3 by omega) with rfl | rfl | rfl | rfl
    · show c (r + 0) = 109; omega
    · show c (r + 1) = 101; omega
    · show c (r + 2) = 110; omega
    · show c (r + 3) = 100; omega
  · have hk2 : kd c r L = 525939 := hk
    have e9 : L = 4 := by
      rcases (show L = 0 ∨ L = 1 ∨ L = 2 ∨ L = 3 ∨ L = 4 ∨ L = 5 by omega) with rfl | rfl | rfl | rfl | rfl | rfl <;> omega
    subst e9
    refine ⟨rfl, hrl, fun i hi => ?_⟩
    have hi2 : i < 4 := hi
    rcases (show i = 0 ∨ i = 1 ∨ i = 2 ∨ i = 3 by omega) with rfl | rfl | rfl | rfl
    · show c (r + 0) = 112; omega
    · show c (r + 1) = 97; omega
    · show c (r + 2) = 115; omega
    · show c (r + 3) = 115; omega
  · have hk2 : kd c r L = 754996 := hk
    have e9 : L = 4 := by
      rcases (show L = 0 ∨ L = 1 ∨ L = 2 ∨ L = 3 ∨ L = 4 ∨ L = 5 by omega) with rfl | rfl | rfl | rfl | rfl | rfl <;> omega
    subst e9
    refine ⟨rfl, hrl, fun i hi => ?_⟩
    have hi2 : i < 4 := hi
    rcases (show i = 0 ∨ i = 1 ∨ i = 2 ∨ i = 3 by omega) with rfl | rfl | rfl | rfl
    · show c (r + 0) = 119; omega
    · show c (r + 1) = 97; omega
    · show c (r + 2) = 105; omega
    · show c (r + 3) = 116; omega
