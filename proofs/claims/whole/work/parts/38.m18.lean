/-! MATH 18: a command read and done -/
theorem num1 {S σ : T2} {c : Nat → Nat} {tl r p : Nat} (hp : p < 2) (hg : GT c tl) (hr : r ≤ tl) (hX : TX S c tl r) (hM : TM σ c tl r) :
    (∃ S1 S' σ' v r', fX7_readSign S 32 = some (1, S1) ∧ fX7_isDigitAhead S1 = some 1 ∧ fX7_readNumber S1 = some (v, S') ∧ fX11_number σ (nI p) = some (1, σ') ∧ r < r' ∧ r' ≤ tl ∧ TX S' c tl r' ∧ TM σ' c tl r' ∧ σ' 5 p = v ∧ FX S S' ∧ S' 1 = S 1 ∧ FR σ σ' ∧ (∀ i, i ≠ p → σ' 5 i = σ 5 i) ∧ σ' 6 7 = σ 6 7) ∨
    ((fX7_readSign S 32 = some (0, S) ∨ ∃ S1, fX7_readSign S 32 = some (1, S1) ∧ fX7_isDigitAhead S1 = some 0 ∧ FX S S1) ∧ ∃ σ', fX11_number σ (nI p) = some (0, σ') ∧ FR σ σ') := by
  have g1 : tl ≤ 60 := hg.1
  rw [fX11_number]
  rcases sign (s := 32) hg hr (by decide) hX hM with ⟨e1, e2, S1, σ1, x1, m1, x2, m2, x3, x4, m3, m4, m5⟩ | ⟨e1, x1, σ1, m1, m3⟩
  · rw [show fX11_passes σ 32 = _ from m1, bd_s, if_neg (show ¬ ((1 : Int32), σ1).1 = 0 from ne10), gi_nI hp (by decide), cl_nI (by omega), bn_s]
    have hM2 : TM (sU σ1 5 (sU (σ1 5) p 0)) c tl (r + 1 + 0) := ⟨by simp (disch := omega) only [sU_n]; exact m2.1, by simp (disch := omega) only [sU_n]; exact m2.2.1, fun k hk => by simp (disch := omega) only [sU_n]; exact m2.2.2 k hk⟩
    obtain ⟨k', S', σ', v', q1, q2, q3, q4, q5, q6, q7, q8, q9, q10, q11, q12, q13, q14⟩ := num_lp (r := r + 1) hp hg fuel 0 S1 (sU σ1 5 (sU (σ1 5) p 0)) 0 (by omega) (by unfold fuel; omega) (by omega) x2 hM2 (by simp (disch := omega) only [sU_s])
    have FA : FR σ σ' := FR_tr m3 (FR_tr ⟨fun i p q => by simp (disch := omega) only [sU_n], fun i p q => by simp (disch := omega) only [sU_n]⟩ q12)
    rw [show ((1 : Int32), σ1).2 6 4 = nI (r + 1) from m2.2.1, show fX11_number_23 (nI p) fuel (sU σ1 5 (sU (σ1 5) p 0)) (nI (r + 1)) = _ from q6, fX11_number_85, q8.2.1]
    rcases X_digit hg (by omega) x2 with ⟨d1, d2⟩ | ⟨d1, d2⟩
    · have := q3 (by omega) d1
      rw [if_neg (nI_ge (by omega) (by omega))]
      exact Or.inl ⟨S1, S', σ', v', r + 1 + k', x1, d2, q5, rfl, by omega, q2, q7, q8, q9, FX_tr x3 q10, q11.trans x4, FA, fun i hi => (q13 i hi).trans (by simp (disch := omega) only [sU_s, sU_n]; rw [m4]), q14.trans (by simp (disch := omega) only [sU_n]; exact m5)⟩
    · have := q4 d1
      subst this
      rw [if_pos (nI_le (by omega) (by omega))]
      exact Or.inr ⟨Or.inr ⟨S1, x1, d2, x3⟩, σ', rfl, FA⟩
  · rw [show fX11_passes σ 32 = _ from m1, bd_s, if_pos (show ((0 : Int32), σ1).1 = 0 from rfl)]
    exact Or.inr ⟨Or.inl x1, σ1, rfl, m3⟩
theorem rn_end {a i n : Nat} {S : T2} (h : a ≤ i) (hi : i < 1000) : fX7_readNumbers_2 (nI a) (n + 1) S (nI i) = some (1, S) := by
  rw [fX7_readNumbers_2, if_pos (nI_le h (by omega))]
theorem rn_ok {a i n : Nat} {S S1 S' : T2} {v : Int32} (h : i < a) (h2 : a ≤ 2) (x1 : fX7_readSign S 32 = some (1, S1)) (x2 : fX7_isDigitAhead S1 = some 1) (x3 : fX7_readNumber S1 = some (v, S')) : fX7_readNumbers_2 (nI a) (n + 1) S (nI i) = fX7_readNumbers_2 (nI a) n (sU S' 1 (sU (S' 1) i v)) (nI (i + 1)) := by
  rw [fX7_readNumbers_2, if_neg (nI_ge h (by omega)), if_neg (show ¬ (2 : Int32) ≤ nI i from nI_ge (b := 2) (by omega) (by decide)), x1, bd_s, if_neg (show ¬ ((1 : Int32), S1).1 = 0 from ne10), x2, bd_s, if_neg ne10, x3, bd_s, gi_nI (by omega) (by decide), cl_nI (by omega), bn_s, nI_1]
theorem rn_no {a i n : Nat} {S : T2} (h : i < a) (h2 : a ≤ 2) (x : fX7_readSign S 32 = some (0, S) ∨ ∃ S1, fX7_readSign S 32 = some (1, S1) ∧ fX7_isDigitAhead S1 = some 0 ∧ FX S S1) : ∃ S', fX7_readNumbers_2 (nI a) (n + 1) S (nI i) = some (0, S') ∧ FX S S' := by
  rw [fX7_readNumbers_2, if_neg (nI_ge h (by omega)), if_neg (show ¬ (2 : Int32) ≤ nI i from nI_ge (b := 2) (by omega) (by decide))]
  rcases x with x1 | ⟨S1, x1, x2, x3⟩
  · exact ⟨S, by rw [x1, bd_s, if_pos (show ((0 : Int32), S).1 = 0 from rfl)], FX_rf S⟩
  · exact ⟨S1, by rw [x1, bd_s, if_neg (show ¬ ((1 : Int32), S1).1 = 0 from ne10), x2, bd_s, if_pos rfl], x3⟩
theorem FX_1 {S : T2} {f : T1} : FX S (sU S 1 f) := ⟨by simp (disch := omega) only [sU_n], fun i hi => by simp (disch := omega) only [sU_n]⟩
theorem TX_1 {S : T2} {f : T1} {c : Nat → Nat} {tl r : Nat} (h : TX S c tl r) : TX (sU S 1 f) c tl r := ⟨by simp (disch := omega) only [sU_n]; exact h.1, by simp (disch := omega) only [sU_n]; exact h.2.1, fun k hk => by simp (disch := omega) only [sU_n]; exact h.2.2 k hk⟩
theorem nums {S σ : T2} {c : Nat → Nat} {tl r e : Nat} (hg : GT c tl) (hr : r ≤ tl) (hX : TX S c tl r) (hM : TM σ c tl r) :
    (∃ S' σ' r', r < r' ∧ r' ≤ tl ∧ fX7_readNumbers S (nI (nn e)) = some (1, S') ∧ fX11_parses_180 σ (vo e) = fX11_parses_200 σ' ∧ TX S' c tl r' ∧ TM σ' c tl r' ∧ S' 1 0 = σ' 5 0 ∧ (nn e = 2 → S' 1 1 = σ' 5 1) ∧ FX S S' ∧ FR σ σ' ∧ σ' 6 7 = σ 6 7) ∨
    (∃ S' σ', fX7_readNumbers S (nI (nn e)) = some (0, S') ∧ fX11_parses_180 σ (vo e) = some (0, σ') ∧ FX S S' ∧ FR σ σ') := by
  have n1 : 1 ≤ nn e ∧ nn e ≤ 2 := by unfold nn; split <;> omega
  rw [fX7_readNumbers, fX11_parses_180]
  rcases num1 (p := 0) (by omega) hg hr hX hM with ⟨S1, S2, σ2, v, r2, x1, x2, x3, m1, r1, r3, x4, m2, m3, x5, x6, m4, m5, m6⟩ | ⟨x1, σ2, m1, m2⟩
  · rw [show fX11_number σ 0 = _ from m1, bd_s, if_neg (show ¬ ((1 : Int32), σ2).1 = 0 from ne10), show fX7_readNumbers_2 (nI (nn e)) fuel S 0 = _ from rn_ok (n := 1023) (i := 0) (by omega) n1.2 x1 x2 x3]
    by_cases h1 : e = 3 ∨ e = 8 ∨ e = 9
    · have f1 : nn e = 1 := if_pos h1
      have f2 : vo e = 1 := if_pos h1
      rw [f1, f2, if_neg ne10]
      refine Or.inl ⟨_, σ2, r2, r1, r3, rn_end (n := 1022) (by omega) (by omega), rfl, TX_1 x4, m2, ?_, fun q => absurd q (by decide), FX_tr x5 FX_1, m4, m6⟩
      simp (disch := omega) only [sU_s]
      exact m3.symm
    · have f1 : nn e = 2 := if_neg h1
      have f2 : vo e = 0 := if_neg h1
      rw [f1, f2, if_pos rfl]
      rcases num1 (p := 1) (by omega) hg r3 (TX_1 (f := sU (S2 1) 0 v) x4) m2 with ⟨S3, S4, σ4, v2, r4, y1, y2, y3, l1, s1, s3, y4, l2, l3, y5, y6, l4, l5, l6⟩ | ⟨y1, σ4, l1, l2⟩
      · rw [show fX11_number ((1 : Int32), σ2).2 1 = _ from l1, bd_s, if_neg (show ¬ ((1 : Int32), σ4).1 = 0 from ne10), rn_ok (n := 1022) (i := 1) (a := 2) (by omega) (by omega) y1 y2 y3]
        refine Or.inl ⟨_, σ4, r4, by omega, s3, rn_end (n := 1021) (by omega) (by omega), rfl, TX_1 y4, l2, ?_, fun _ => ?_, FX_tr x5 (FX_tr FX_1 (FX_tr y5 FX_1)), FR_tr m4 l4, l6.trans m6⟩
        · simp (disch := omega) only [sU_s, sU_n]
          rw [y6, l5 0 (by omega), m3]
          simp (disch := omega) only [sU_s]
        · simp (disch := omega) only [sU_s]
          exact l3.symm
      · obtain ⟨S', z1, z2⟩ := rn_no (n := 1022) (i := 1) (a := 2) (by omega) (by omega) y1
        rw [show fX11_number ((1 : Int32), σ2).2 1 = _ from l1, bd_s, if_pos (show ((0 : Int32), σ4).1 = 0 from rfl)]
        exact Or.inr ⟨S', σ4, z1, rfl, FX_tr x5 (FX_tr FX_1 z2), FR_tr m4 l2⟩
  · obtain ⟨S', z1, z2⟩ := rn_no (n := 1023) (i := 0) (by omega) n1.2 x1
    rw [show fX11_number σ 0 = _ from m1, bd_s, if_pos (show ((0 : Int32), σ2).1 = 0 from rfl)]
    exact Or.inr ⟨S', σ2, z1, rfl, z2, m2⟩
def fX7_readCommand (S : T2) : Option (Option Nat × T2) := bd (fX7_readVerb S) (fun q => match q.1 with
  | none => some (none, q.2)
  | some e => bd (fX7_readNumbers q.2 (nI (nn e))) (fun q2 => if q2.1 = 0 then some (none, q2.2) else bd (fX7_readSign q2.2 59) (fun q3 => if q3.1 = 0 then some (none, q3.2) else some (some e, q3.2))))
theorem cmd {S σ : T2} {c : Nat → Nat} {tl r : Nat} (hg : GT c tl) (hr : r ≤ tl) (hX : TX S c tl r) (hM : TM σ c tl r) :
    (∃ e S' σ' r', e < 10 ∧ r < r' ∧ r' ≤ tl ∧ fX7_readCommand S = some (some e, S') ∧ fX11_parses σ = some (1, σ') ∧ TX S' c tl r' ∧ TM σ' c tl r' ∧ σ' 6 7 = nI (vc e) ∧ S' 1 0 = σ' 5 0 ∧ (nn e = 2 → S' 1 1 = σ' 5 1) ∧ FX S S' ∧ FR σ σ') ∨
    (∃ S' σ', fX7_readCommand S = some (none, S') ∧ fX11_parses σ = some (0, σ') ∧ FX S S' ∧ FR σ σ') := by
  rw [fX7_readCommand]
  rcases cmd_word hg hr hX hM with ⟨e, S1, σ1, h1, h2, h3, h4, h5, h6, h7, h8, h9⟩ | ⟨σ1, h1, h2, h3⟩
  · rw [h3, h4, bd_s]
    rcases nums (e := e) hg h2 h5 h6 with ⟨S2, σ2, r2, q1, q2, q3, q4, q5, q6, q7, q8, q9, q10, q11⟩ | ⟨S2, σ2, q1, q2, q3, q4⟩
    · rw [q4, fX11_parses_200]
      simp only [q3, bd_s]
      rw [if_neg ne10]
      rcases sign (s := 59) hg q2 (by decide) q5 q6 with ⟨e1, e2, S3, σ3, x1, m1, x2, m2, x3, x4, m3, m4, m5⟩ | ⟨e1, x1, σ3, m1, m3⟩
      · rw [show fX11_passes σ2 59 = _ from m1, show fX7_readSign S2 59 = _ from x1, bd_s, bd_s, if_neg (show ¬ ((1 : Int32), S3).1 = 0 from ne10), if_neg (show ¬ ((1 : Int32), σ3).1 = 0 from ne10)]
        exact Or.inl ⟨e, S3, σ3, r2 + 1, h1, by omega, by omega, rfl, rfl, x2, m2, m5.trans (q11.trans h7), by rw [x4, m4]; exact q7, fun z => by rw [x4, m4]; exact q8 z, FX_tr h9 (FX_tr q9 x3), FR_tr h8 (FR_tr q10 m3)⟩
      · rw [show fX11_passes σ2 59 = _ from m1, show fX7_readSign S2 59 = _ from x1, bd_s, bd_s, if_pos (show ((0 : Int32), S2).1 = 0 from rfl), if_pos (show ((0 : Int32), σ3).1 = 0 from rfl)]
        exact Or.inr ⟨S2, σ3, rfl, rfl, FX_tr h9 q9, FR_tr h8 (FR_tr q10 m3)⟩
    · rw [q2]
      simp only [q1, bd_s]
      rw [if_pos trivial]
      exact Or.inr ⟨S2, σ2, rfl, rfl, FX_tr h9 q3, FR_tr h8 q4⟩
  · rw [h1]
    rcases h3 with h3 | ⟨e, S1, he, h3, h4, h5, h6, h7⟩
    · rw [h3, bd_s]
      exact Or.inr ⟨S, σ1, rfl, rfl, FX_rf S, h2⟩
    · have n1 : 1 ≤ nn e ∧ nn e ≤ 2 := by unfold nn; split <;> omega
      rw [h3, bd_s]
      have x0 : fX7_readSign S1 32 = some (0, S1) := by
        have := hg.2 _ h6
        have g1 : tl ≤ 60 := hg.1
        rw [fX7_readSign, h5.1, h5.2.1, if_neg (nI_ge h6 (by omega)), gi_nI (by omega) (by decide), cl_nI (by omega), h5.2.2 _ h6, if_neg (show ¬ nI (c (r + wl e)) = 32 from fun q => h7 ((nI_eq (b := 32) (by omega) (by decide)).mp q))]
      obtain ⟨S', z1, z2⟩ := rn_no (n := 1023) (i := 0) (a := nn e) (by omega) n1.2 (Or.inl x0)
      have z3 : fX7_readNumbers S1 (nI (nn e)) = some (0, S') := z1
      simp only [z3, bd_s]
      rw [if_pos trivial]
      exact Or.inr ⟨S', σ1, rfl, rfl, FX_tr h4 z2, h2⟩
def fX9_doOn (e : Nat) (R : T3) (a b : Int32) : Option (Int32 × T3) := match e with
  | 0 => fX5_beginRide R a b
  | 1 => fX5_endRide R a b
  | 2 => fX5_tellFull R a b
  | 3 => fX5_tellFaulty R a
  | 4 => fX5_load R a b
  | 5 => fX5_unload R a b
  | 6 => fX5_sendVan R a b
  | 7 => fX5_handOver R a b
  | 8 => fX5_sellPass R a
  | _ => fX5_letGoBy R a
theorem CH_1 {σ : T2} (h : σ 6 2 = 1) : CH σ σ := ⟨by rw [fX11_changes, if_neg (by rw [h]; exact ne10)], rfl⟩
theorem does {σ : T2} {R : T3} {e : Nat} {b : Int32} (he : e < 10) (hO : OK (σ 0)) (hR : RR R (σ 0)) (h1 : σ 6 2 = 1) (h7 : σ 6 7 = nI (vc e)) (hb : nn e = 2 → b = σ 5 1) : ∃ r R' g', fX9_doOn e R (σ 5 0) b = some (r, R') ∧ fX11_calls σ = some (r, if r < 0 then σ else sU σ 0 g') ∧ (¬ r < 0 → OK g' ∧ RR R' g') := by
  rw [fX11_calls, h7, ct0, ct1]
  rcases (show e = 0 ∨ e = 1 ∨ e = 2 ∨ e = 3 ∨ e = 4 ∨ e = 5 ∨ e = 6 ∨ e = 7 ∨ e = 8 ∨ e = 9 by omega) with rfl | rfl | rfl | rfl | rfl | rfl | rfl | rfl | rfl | rfl
  · obtain ⟨r, R', g', q1, q2, q3⟩ := op_rent hO hR (σ 5 0) (σ 5 1)
    have q4 := q2 σ σ rfl (CH_1 h1)
    refine ⟨r, R', g', ?_, ?_, q3⟩
    · rw [hb rfl]; exact q1
    · rw [if_neg (show ¬ nI (vc 0) = 239 by decide), if_neg (show ¬ nI (vc 0) = 17076 by decide), if_neg (show ¬ nI (vc 0) = 66667 by decide), if_neg (show ¬ nI (vc 0) = 218508 by decide), if_neg (show ¬ nI (vc 0) = 431556 by decide), if_neg (show ¬ nI (vc 0) = 525939 by decide), if_pos (show nI (vc 0) = 595412 from rfl)]
      simp only [q4, bd_s]
  · obtain ⟨r, R', g', q1, q2, q3⟩ := op_back hO hR (σ 5 0) (σ 5 1)
    have q4 := q2 σ σ rfl (CH_1 h1)
    refine ⟨r, R', g', ?_, ?_, q3⟩
    · rw [hb rfl]; exact q1
    · rw [if_neg (show ¬ nI (vc 1) = 239 by decide), if_neg (show ¬ nI (vc 1) = 17076 by decide), if_pos (show nI (vc 1) = 66667 from rfl)]
      simp only [q4, bd_s]
  · obtain ⟨r, R', g', q1, q2, q3⟩ := op_full hO hR (σ 5 0) (σ 5 1)
    have q4 := q2 σ σ rfl (CH_1 h1)
    refine ⟨r, R', g', ?_, ?_, q3⟩
    · rw [hb rfl]; exact q1
    · rw [if_neg (show ¬ nI (vc 2) = 239 by decide), if_neg (show ¬ nI (vc 2) = 17076 by decide), if_neg (show ¬ nI (vc 2) = 66667 by decide), if_pos (show nI (vc 2) = 218508 from rfl)]
      simp only [q4, bd_s]
  · obtain ⟨r, R', g', q1, q2, q3⟩ := op_report hO hR (σ 5 0)
    have q4 := q2 σ σ rfl (CH_1 h1)
    refine ⟨r, R', g', ?_, ?_, q3⟩
    · exact q1
    · rw [if_neg (show ¬ nI (vc 3) = 239 by decide), if_neg (show ¬ nI (vc 3) = 17076 by decide), if_neg (show ¬ nI (vc 3) = 66667 by decide), if_neg (show ¬ nI (vc 3) = 218508 by decide), if_neg (show ¬ nI (vc 3) = 431556 by decide), if_neg (show ¬ nI (vc 3) = 525939 by decide), if_neg (show ¬ nI (vc 3) = 595412 by decide), if_neg (show ¬ nI (vc 3) = 656741 by decide), if_pos (show nI (vc 3) = 6346132 from rfl)]
      simp only [q4, bd_s]
  · obtain ⟨r, R', g', q1, q2, q3⟩ := op_take hO hR (σ 5 0) (σ 5 1)
    have q4 := q2 σ σ rfl (CH_1 h1)
    refine ⟨r, R', g', ?_, ?_, q3⟩
    · rw [hb rfl]; exact q1
    · rw [if_neg (show ¬ nI (vc 4) = 239 by decide), if_neg (show ¬ nI (vc 4) = 17076 by decide), if_neg (show ¬ nI (vc 4) = 66667 by decide), if_neg (show ¬ nI (vc 4) = 218508 by decide), if_neg (show ¬ nI (vc 4) = 431556 by decide), if_neg (show ¬ nI (vc 4) = 525939 by decide), if_neg (show ¬ nI (vc 4) = 595412 by decide), if_pos (show nI (vc 4) = 656741 from rfl)]
      simp only [q4, bd_s]
  · obtain ⟨r, R', g', q1, q2, q3⟩ := op_put hO hR (σ 5 0) (σ 5 1)
    have q4 := q2 σ σ rfl (CH_1 h1)
    refine ⟨r, R', g', ?_, ?_, q3⟩
    · rw [hb rfl]; exact q1
    · rw [if_neg (show ¬ nI (vc 5) = 239 by decide), if_pos (show nI (vc 5) = 17076 from rfl)]
      simp only [q4, bd_s]
  · obtain ⟨r, R', g', q1, q2, q3⟩ := op_go hO hR (σ 5 0) (σ 5 1)
    have q4 := q2 σ σ rfl (CH_1 h1)
    refine ⟨r, R', g', ?_, ?_, q3⟩
    · rw [hb rfl]; exact q1
    · rw [if_pos (show nI (vc 6) = 239 from rfl)]
      simp only [q4, bd_s]
  · obtain ⟨r, R', g', q1, q2, q3⟩ := op_mend hO hR (σ 5 0) (σ 5 1)
    have q4 := q2 σ σ rfl (CH_1 h1)
    refine ⟨r, R', g', ?_, ?_, q3⟩
    · rw [hb rfl]; exact q1
    · rw [if_neg (show ¬ nI (vc 7) = 239 by decide), if_neg (show ¬ nI (vc 7) = 17076 by decide), if_neg (show ¬ nI (vc 7) = 66667 by decide), if_neg (show ¬ nI (vc 7) = 218508 by decide), if_pos (show nI (vc 7) = 431556 from rfl)]
      simp only [q4, bd_s]
  · obtain ⟨r, R', g', q1, q2, q3⟩ := op_pass hO hR (σ 5 0)
    have q4 := q2 σ σ rfl (CH_1 h1)
    refine ⟨r, R', g', ?_, ?_, q3⟩
    · exact q1
    · rw [if_neg (show ¬ nI (vc 8) = 239 by decide), if_neg (show ¬ nI (vc 8) = 17076 by decide), if_neg (show ¬ nI (vc 8) = 66667 by decide), if_neg (show ¬ nI (vc 8) = 218508 by decide), if_neg (show ¬ nI (vc 8) = 431556 by decide), if_pos (show nI (vc 8) = 525939 from rfl)]
      simp only [q4, bd_s]
  · obtain ⟨r, R', g', q1, q2, q3⟩ := op_pause hO hR (σ 5 0)
    have q4 := q2 σ σ rfl (CH_1 h1)
    refine ⟨r, R', g', ?_, ?_, q3⟩
    · exact q1
    · rw [if_neg (show ¬ nI (vc 9) = 239 by decide), if_neg (show ¬ nI (vc 9) = 17076 by decide), if_neg (show ¬ nI (vc 9) = 66667 by decide), if_neg (show ¬ nI (vc 9) = 218508 by decide), if_neg (show ¬ nI (vc 9) = 431556 by decide), if_neg (show ¬ nI (vc 9) = 525939 by decide), if_neg (show ¬ nI (vc 9) = 595412 by decide), if_neg (show ¬ nI (vc 9) = 656741 by decide), if_neg (show ¬ nI (vc 9) = 6346132 by decide)]
      simp only [q4, bd_s]
