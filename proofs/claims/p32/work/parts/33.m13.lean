/-! MATH 13: sums over a row; the readers -/
def sm (f : Nat → Int32) : Nat → Int32
  | 0 => 0
  | n + 1 => sm f n + f n
theorem or_0 {x : Int32} : x ||| 0 = x := b_ext (fun i _ => by rw [b_or, b_0, Bool.or_false])
theorem X_setAt_lp {B : T2} {g : T1} {st wh : Int32} {nb : Nat} (hb : B 6 0 = nI nb) (h16 : nb ≤ 16) (h0 : ∀ k, k < 16 → B 0 k = g (32 + 6 * k)) (h1 : ∀ k, k < nb → g (32 + 6 * k) = st → (B 1 k = wh ↔ g (32 + 6 * k + 1) = wh)) : ∀ (n j : Nat) (acc : Int32), j ≤ nb → nb - j < n → acc = ts g st wh j → fX1_setAt_5 B st wh n acc (nI j) = some (ts g st wh nb) := by
  intro n
  induction n with
  | zero => intro j acc h1 h2; omega
  | succ n ih =>
    intro j acc hj1 hj2 hj3
    rw [fX1_setAt_5, hb]
    by_cases hj : j = nb
    · subst hj
      rw [if_pos (nI_le (Nat.le_refl _) (by omega)), hj3]
    · rw [if_neg (nI_ge (by omega) (by omega)), gi_nI (by omega) (by decide), cl_nI (by omega), h0 j (by omega)]
      by_cases c1 : g (32 + 6 * j) = st
      · rw [if_pos c1, gi_nI (by omega) (by decide)]
        by_cases c2 : g (32 + 6 * j + 1) = wh
        · rw [if_pos ((h1 j (by omega) c1).mpr c2)]
          unfold fX1_setAt_43
          rw [nI_1]
          refine ih (j + 1) _ (by omega) (by omega) ?_
          rw [hj3, ts, if_pos ⟨c1, c2⟩]
        · rw [if_neg (fun h => c2 ((h1 j (by omega) c1).mp h))]
          unfold fX1_setAt_43
          rw [nI_1]
          refine ih (j + 1) _ (by omega) (by omega) ?_
          rw [hj3, ts, if_neg (fun h => c2 h.2), or_0]
      · rw [if_neg c1]
        unfold fX1_setAt_43
        rw [nI_1]
        refine ih (j + 1) _ (by omega) (by omega) ?_
        rw [hj3, ts, if_neg (fun h => c1 h.1), or_0]
theorem X_setAt {p : T3} {g : T1} {ns nb nr nv k : Nat} (hI : IG g ns nb nr nv) (hR : RR p g) (st : Int32) (hk : k < 1000) : fX1_setAt (p 1) st (nI k) = some (ts g st (nI k) nb) := by
  obtain ⟨⟨-, hb, -, -, -, h16, -, -⟩, -⟩ := hI
  obtain ⟨⟨-, r1, -⟩, -, ⟨b0, b1, -⟩, -⟩ := hR
  unfold fX1_setAt
  rw [zl0]
  refine X_setAt_lp (r1.trans hb) h16 b0 (fun j hj _ => ?_) fuel 0 _ (by omega) (by unfold fuel; omega) rfl
  rw [b1 j (by omega)]
  exact mp_nI hk
theorem X_allDocks_lp {B : T2} {g : T1} {ns : Nat} (hb : B 4 0 = nI ns) (h6 : ns ≤ 6) (h0 : ∀ k, k < 6 → B 1 k = g (8 + 4 * k + 1)) : ∀ (n j : Nat) (acc : Int32), j ≤ ns → ns - j < n → acc = sm (fun k => g (8 + 4 * k + 1)) j → fX6_allDocks_4 B n acc (nI j) = some (sm (fun k => g (8 + 4 * k + 1)) ns) := by
  intro n
  induction n with
  | zero => intro j acc h1 h2; omega
  | succ n ih =>
    intro j acc h1 h2 h3
    rw [fX6_allDocks_4, hb]
    by_cases hj : j = ns
    · subst hj
      rw [if_pos (nI_le (Nat.le_refl _) (by omega)), h3]
    · rw [if_neg (nI_ge (by omega) (by omega)), gi_nI (by omega) (by decide), cl_nI (by omega), h0 j (by omega), nI_1]
      exact ih (j + 1) _ (by omega) (by omega) (by rw [h3, sm])
theorem M_allDocks_lp {σ : T2} {ns : Nat} (hb : σ 0 0 = nI ns) (h6 : ns ≤ 6) : ∀ (n j : Nat) (acc : Int32), j ≤ ns → ns - j < n → acc = sm (fun k => σ 0 (8 + 4 * k + 1)) j → fX11_allDocks_4 σ n acc (nI j) = some (sm (fun k => σ 0 (8 + 4 * k + 1)) ns) := by
  intro n
  induction n with
  | zero => intro j acc h1 h2; omega
  | succ n ih =>
    intro j acc h1 h2 h3
    rw [fX11_allDocks_4, ct0, hb]
    by_cases hj : j = ns
    · subst hj
      rw [if_pos (nI_le (Nat.le_refl _) (by omega)), h3]
    · rw [if_neg (nI_ge (by omega) (by omega)), M_ofS1 (by omega), bd_s, nI_1]
      exact ih (j + 1) _ (by omega) (by omega) (by rw [h3, sm])
theorem X_owed_lp {B : T2} {g : T1} {nr : Nat} (hb : B 9 0 = nI nr) (h8 : nr ≤ 8) (h0 : ∀ k, k < 8 → B 0 k = g (128 + 9 * k)) : ∀ (n j : Nat) (acc : Int32), j ≤ nr → nr - j < n → acc = sm (fun k => g (128 + 9 * k)) j → fX4_allOwed_4 B n acc (nI j) = some (sm (fun k => g (128 + 9 * k)) nr) := by
  intro n
  induction n with
  | zero => intro j acc h1 h2; omega
  | succ n ih =>
    intro j acc h1 h2 h3
    rw [fX4_allOwed_4, hb]
    by_cases hj : j = nr
    · subst hj
      rw [if_pos (nI_le (Nat.le_refl _) (by omega)), h3]
    · rw [if_neg (nI_ge (by omega) (by omega)), gi_nI (by omega) (by decide), cl_nI (by omega), h0 j (by omega), nI_1]
      exact ih (j + 1) _ (by omega) (by omega) (by rw [h3, sm])
theorem M_owed_lp {σ : T2} {nr : Nat} (hb : σ 0 2 = nI nr) (h8 : nr ≤ 8) : ∀ (n j : Nat) (acc : Int32), j ≤ nr → nr - j < n → acc = sm (fun k => σ 0 (128 + 9 * k)) j → fX11_owed_4 σ n acc (nI j) = some (sm (fun k => σ 0 (128 + 9 * k)) nr) := by
  intro n
  induction n with
  | zero => intro j acc h1 h2; omega
  | succ n ih =>
    intro j acc h1 h2 h3
    rw [fX11_owed_4, ct2, hb]
    by_cases hj : j = nr
    · subst hj
      rw [if_pos (nI_le (Nat.le_refl _) (by omega)), h3]
    · rw [if_neg (nI_ge (by omega) (by omega)), M_ofR0 (by omega), bd_s, nI_1]
      exact ih (j + 1) _ (by omega) (by omega) (by rw [h3, sm])
theorem X_where_lp {B : T2} {g : T1} {nb : Nat} {st : Int32} (hb : B 6 0 = nI nb) (h16 : nb ≤ 16) (h0 : ∀ k, k < 16 → B 0 k = g (32 + 6 * k)) : ∀ (n j : Nat) (acc : Int32), j ≤ nb → nb - j < n → acc = sm (fun k => if g (32 + 6 * k) = st then 1 else 0) j → fX1_countWhere_4 B st n acc (nI j) = some (sm (fun k => if g (32 + 6 * k) = st then 1 else 0) nb) := by
  intro n
  induction n with
  | zero => intro j acc h1 h2; omega
  | succ n ih =>
    intro j acc h1 h2 h3
    rw [fX1_countWhere_4, hb]
    by_cases hj : j = nb
    · subst hj
      rw [if_pos (nI_le (Nat.le_refl _) (by omega)), h3]
    · rw [if_neg (nI_ge (by omega) (by omega)), gi_nI (by omega) (by decide), cl_nI (by omega), h0 j (by omega)]
      by_cases c : g (32 + 6 * j) = st
      · rw [if_pos c]
        unfold fX1_countWhere_25
        rw [nI_1]
        exact ih (j + 1) _ (by omega) (by omega) (by rw [h3, sm]; simp only [c, if_true])
      · rw [if_neg c]
        unfold fX1_countWhere_25
        rw [nI_1]
        exact ih (j + 1) _ (by omega) (by omega) (by rw [h3, sm]; simp only [c, if_false, Int32.add_zero])
theorem M_where_lp {σ : T2} {nb : Nat} {st : Int32} (hb : σ 0 1 = nI nb) (h16 : nb ≤ 16) : ∀ (n j : Nat) (acc : Int32), j ≤ nb → nb - j < n → acc = sm (fun k => if σ 0 (32 + 6 * k) = st then 1 else 0) j → fX11_inState_4 σ st n acc (nI j) = some (sm (fun k => if σ 0 (32 + 6 * k) = st then 1 else 0) nb) := by
  intro n
  induction n with
  | zero => intro j acc h1 h2; omega
  | succ n ih =>
    intro j acc h1 h2 h3
    rw [fX11_inState_4, ct1, hb]
    by_cases hj : j = nb
    · subst hj
      rw [if_pos (nI_le (Nat.le_refl _) (by omega)), h3]
    · rw [if_neg (nI_ge (by omega) (by omega)), M_ofB0 (by omega), bd_s]
      by_cases c : σ 0 (32 + 6 * j) = st
      · rw [if_pos c]
        unfold fX11_inState_30
        rw [nI_1]
        exact ih (j + 1) _ (by omega) (by omega) (by rw [h3, sm]; simp only [c, if_true])
      · rw [if_neg c]
        unfold fX11_inState_30
        rw [nI_1]
        exact ih (j + 1) _ (by omega) (by omega) (by rw [h3, sm]; simp only [c, if_false, Int32.add_zero])
/-- unevenness of a station with some bicycles more or less -/
def uv (x d : Int32) : Int32 := if 0 ≤ (2 : Int32) * x - d then (2 : Int32) * x - d else -((2 : Int32) * x - d)
def un (g : T1) (nb k : Nat) : Int32 := uv (nI (cw g 0 (nI k) nb)) (g (8 + 4 * k + 1))
theorem M_uv (x d : Int32) : fX11_uneven x d = some (uv x d) := by rw [fX11_uneven, uv]; split <;> rfl
theorem M_uneven {σ : T2} {nb k : Nat} (hb : σ 0 1 = nI nb) (h16 : nb ≤ 16) (hk : k < 6) : fX11_unevenNow σ (nI k) = some (un (σ 0) nb k) := by
  rw [fX11_unevenNow, M_docked hb h16, bd_s, M_ofS1 hk, bd_s, M_uv, bd_s]
  rfl
theorem X_uneven {p : T3} {g : T1} {ns nb nr nv k : Nat} (hI : IG g ns nb nr nv) (hR : RR p g) (hk : k < ns) : fX5_unevenness p (nI k) = some (un g nb k) := by
  have h6 : ns ≤ 6 := hI.1.2.2.2.2.1
  rw [fX5_unevenness, X6_has hI hR, hs_t hk (by omega), bd_s, if_neg ne10, X_docked hI hR (by omega), bd_s, gi_nI (by omega) (by decide), cl_nI (by omega), hR.2.1.2.1 k (by omega), way_x, bn_s]
  rfl
theorem X_unevenAll_lp {p : T3} {g : T1} {ns nb nr nv : Nat} (hI : IG g ns nb nr nv) (hR : RR p g) (hb : p 0 4 0 = nI ns) (h6 : ns ≤ 6) : ∀ (n j : Nat) (acc : Int32), j ≤ ns → ns - j < n → acc = sm (un g nb) j → fX5_allUnevenness_4 p n acc (nI j) = some (sm (un g nb) ns) := by
  intro n
  induction n with
  | zero => intro j acc h1 h2; omega
  | succ n ih =>
    intro j acc h1 h2 h3
    rw [fX5_allUnevenness_4, hb]
    by_cases hj : j = ns
    · subst hj
      rw [if_pos (nI_le (Nat.le_refl _) (by omega)), h3]
    · rw [if_neg (nI_ge (by omega) (by omega)), X_uneven hI hR (by omega), bd_s, nI_1]
      exact ih (j + 1) _ (by omega) (by omega) (by rw [h3, sm])
theorem M_unevenAll_lp {σ : T2} {ns nb : Nat} (hb : σ 0 0 = nI ns) (h6 : ns ≤ 6) (hb1 : σ 0 1 = nI nb) (h16 : nb ≤ 16) : ∀ (n j : Nat) (acc : Int32), j ≤ ns → ns - j < n → acc = sm (un (σ 0) nb) j → fX11_unevenAll_4 σ n acc (nI j) = some (sm (un (σ 0) nb) ns) := by
  intro n
  induction n with
  | zero => intro j acc h1 h2; omega
  | succ n ih =>
    intro j acc h1 h2 h3
    rw [fX11_unevenAll_4, ct0, hb]
    by_cases hj : j = ns
    · subst hj
      rw [if_pos (nI_le (Nat.le_refl _) (by omega)), h3]
    · rw [if_neg (nI_ge (by omega) (by omega)), M_uneven hb1 h16 (by omega), bd_s, nI_1]
      exact ih (j + 1) _ (by omega) (by omega) (by rw [h3, sm])
theorem mp_i {j : Nat} (hj : j < 1000) : mp (nI j) = nI j := (mp_nI hj).mpr rfl
/-- what is left of a time -/
theorem left_i {u t : Int32} (hu : ∃ a, u = nI a ∧ a ≤ 20000) (ht : ∃ a, t = nI a ∧ a ≤ 9000) : (if 0 < u - t then u - t else 0) = if u ≤ t then 0 else u - t := by
  obtain ⟨a, rfl, ha⟩ := hu
  obtain ⟨b, rfl, hb⟩ := ht
  by_cases c : a ≤ b
  · rw [if_pos (nI_le c (by omega))]
    have e : nI a - nI b ≤ 0 := by
      by_cases c2 : a = b
      · rw [c2, Int32.sub_self]
        decide
      · exact Int32.le_of_lt (pk_sneg (by omega) (by omega))
    rw [if_neg (Int32.not_lt.mpr e)]
  · rw [if_neg (nI_ge (by omega) (by omega)), pk_sub (by omega), if_pos (by rw [← nI_0]; exact nI_lt (by omega) (by omega))]
theorem rng (p : Int32) (n : Nat) (hn : n + 1 < 2 ^ 31) : (fX11_in p 0 (nI n) = some 0 ∧ (p < 0 ∨ ¬ p < 0 ∧ ¬ p ≤ nI n) ∧ ∀ k, k ≤ n → ¬ p = nI k) ∨ ∃ k, k ≤ n ∧ p = nI k ∧ fX11_in p 0 (nI n) = some 1 := by
  rcases pk_ix p hn with q | q | ⟨j, q1, q2⟩
  · exact Or.inl ⟨M_in0 q, Or.inl q, fun k hk e => absurd q (by rw [e]; exact nI_pos (by omega))⟩
  · have q0 : nI n < p := Int32.lt_of_lt_of_le (nI_lt (Nat.lt_succ_self n) hn) q
    have q3 : ¬ p < 0 := Int32.not_lt.mpr (Int32.le_trans (by rw [← nI_0]; exact nI_le (Nat.zero_le _) hn) q)
    exact Or.inl ⟨M_in1 q3 q0, Or.inr ⟨q3, Int32.not_le.mpr q0⟩, fun k hk e => absurd q0 (by rw [e]; exact nI_nlt hk (by omega))⟩
  · exact Or.inr ⟨j, by omega, q2, by rw [q2]; exact M_in2 (nI_pos (by omega)) (nI_nlt (by omega) (by omega))⟩
theorem r_bicycleOf {x : T5} {σ : T2} (h : Rel x σ) (p1 p2 : Int32) : ∃ r, fX10_bicycleOf x p1 p2 = some r ∧ fX11_bicycleOf σ p1 p2 = some r := by
  obtain ⟨⟨⟨ns, nb, nr, nv, hI⟩, hR⟩, -⟩ := id h
  obtain ⟨⟨h0, h1, h2, h3, hs6, hb16, hr8, hv2⟩, ⟨tm, h4, ht⟩, ⟨⟨t5, h5, ht5⟩, ⟨t6, h6, ht6, ht6b⟩, ⟨t7, h7, ht7⟩⟩, hpl, hdk, hbc, hrd, hvn, hzS, hzB, hzR, hzV⟩ := id hI
  obtain ⟨⟨a0, a1, a2, a3, a4, a5⟩, ⟨s0, s1, s2, s3⟩, ⟨b0, b1, b2, b3, b4, b5⟩, ⟨r0, r1, r2, r3, r4, r5, r6, r7, r8⟩, ⟨v0, v1, v2⟩⟩ := id hR
  by_cases hb : inN p1 nb
  case neg =>
    refine ⟨-1, ?_, ?_⟩
    · rw [fX10_bicycleOf, X1_has hI hR, hs_f hb (by omega), bd_s, if_pos rfl]
    · rw [fX11_bicycleOf, M_isBicycle h1, hs_f hb (by omega), bd_s, if_pos rfl]
  obtain ⟨b, hb, rfl⟩ := hb
  rw [fX10_bicycleOf, X1_has hI hR, hs_t hb (by omega), bd_s, if_neg ne10, fX11_bicycleOf, M_isBicycle h1, hs_t hb (by omega), bd_s, if_neg ne10]
  rcases rng p2 4 (by decide) with ⟨q1, -, q3⟩ | ⟨k, q1, rfl, q3⟩
  · refine ⟨-1, ?_, ?_⟩
    · rw [if_neg (show ¬ p2 = 0 from q3 0 (by omega)), if_neg (show ¬ p2 = 1 from q3 1 (by omega)), if_neg (show ¬ p2 = 2 from q3 2 (by omega)), if_neg (show ¬ p2 = 3 from q3 3 (by omega)), if_neg (show ¬ p2 = 4 from q3 4 (by omega))]
    · rw [show fX11_in p2 0 4 = some 0 from q1, bd_s, if_pos rfl]
  rw [show fX11_in (nI k) 0 4 = some 1 from q3, bd_s, if_neg ne10]
  rcases (show k = 0 ∨ k = 1 ∨ k = 2 ∨ k = 3 ∨ k = 4 by omega) with rfl | rfl | rfl | rfl | rfl
  · refine ⟨σ 0 (32 + 6 * b), ?_, ?_⟩
    · rw [if_pos (show nI 0 = 0 from rfl), gi_nI (by omega) (by decide), cl_nI (by omega), b0 b (by omega)]
    · rw [show fX11_ofBicycle σ (nI b) (nI 0) = _ from M_ofB0 (by omega), bd_s]
  · refine ⟨σ 0 (32 + 6 * b + 1), ?_, ?_⟩
    · rw [if_neg (show ¬ nI 1 = 0 by decide), if_pos (show nI 1 = 1 from rfl), fX1_holderOrNotFound, X1_has hI hR, hs_t hb (by omega), bd_s, if_neg ne10, gi_nI (by omega) (by decide), cl_nI (by omega), b0 b (by omega), b1 b (by omega)]
      rcases (hbc b hb).1 with ⟨e, j, hj, ej⟩ | ⟨e, j, hj, ej⟩ | ⟨e, j, hj, ej⟩ | ⟨e, ej⟩
      · rw [e, ej, if_neg (by decide), gi_nI (by omega) (by decide), bd_s, mp_i (by omega)]
      · rw [e, ej, if_neg (by decide), gi_nI (by omega) (by decide), bd_s, mp_i (by omega)]
      · rw [e, ej, if_neg (by decide), gi_nI (by omega) (by decide), bd_s, mp_i (by omega)]
      · rw [e, ej, if_pos rfl, bd_s]
    · rw [show fX11_ofBicycle σ (nI b) (nI 1) = _ from M_ofB1 (by omega), bd_s]
  · refine ⟨σ 0 (32 + 6 * b + 2), ?_, ?_⟩
    · rw [if_neg (show ¬ nI 2 = 0 by decide), if_neg (show ¬ nI 2 = 1 by decide), if_pos (show nI 2 = 2 from rfl), gi_nI (by omega) (by decide), cl_nI (by omega), b2 b (by omega)]
    · rw [show fX11_ofBicycle σ (nI b) (nI 2) = _ from M_ofB2 (by omega), bd_s]
  · refine ⟨σ 0 (32 + 6 * b + 3), ?_, ?_⟩
    · rw [if_neg (show ¬ nI 3 = 0 by decide), if_neg (show ¬ nI 3 = 1 by decide), if_neg (show ¬ nI 3 = 2 by decide), if_pos (show nI 3 = 3 from rfl), gi_nI (by omega) (by decide), cl_nI (by omega), b3 b (by omega)]
    · rw [show fX11_ofBicycle σ (nI b) (nI 3) = _ from M_ofB3 (by omega), bd_s]
  · refine ⟨σ 0 (32 + 6 * b + 4), ?_, ?_⟩
    · rw [if_neg (show ¬ nI 4 = 0 by decide), if_neg (show ¬ nI 4 = 1 by decide), if_neg (show ¬ nI 4 = 2 by decide), if_neg (show ¬ nI 4 = 3 by decide), if_pos (show nI 4 = 4 from rfl), gi_nI (by omega) (by decide), cl_nI (by omega), b4 b (by omega)]
    · rw [show fX11_ofBicycle σ (nI b) (nI 4) = _ from M_ofB4 (by omega), bd_s]
theorem r_riderOf {x : T5} {σ : T2} (h : Rel x σ) (p1 p2 : Int32) : ∃ r, fX10_riderOf x p1 p2 = some r ∧ fX11_riderOf σ p1 p2 = some r := by
  obtain ⟨⟨⟨ns, nb, nr, nv, hI⟩, hR⟩, -⟩ := id h
  obtain ⟨⟨h0, h1, h2, h3, hs6, hb16, hr8, hv2⟩, ⟨tm, h4, ht⟩, ⟨⟨t5, h5, ht5⟩, ⟨t6, h6, ht6, ht6b⟩, ⟨t7, h7, ht7⟩⟩, hpl, hdk, hbc, hrd, hvn, hzS, hzB, hzR, hzV⟩ := id hI
  obtain ⟨⟨a0, a1, a2, a3, a4, a5⟩, ⟨s0, s1, s2, s3⟩, ⟨b0, b1, b2, b3, b4, b5⟩, ⟨r0, r1, r2, r3, r4, r5, r6, r7, r8⟩, ⟨v0, v1, v2⟩⟩ := id hR
  by_cases hb : inN p1 nr
  case neg =>
    refine ⟨-1, ?_, ?_⟩
    · rw [fX10_riderOf, X4_has hI hR, hs_f hb (by omega), bd_s, if_pos rfl]
    · rw [fX11_riderOf, M_isRider h2, hs_f hb (by omega), bd_s, if_pos rfl]
  obtain ⟨b, hb, rfl⟩ := hb
  obtain ⟨hd0, hd1, hd⟩ := id (hrd b hb)
  rw [fX10_riderOf, X4_has hI hR, hs_t hb (by omega), bd_s, if_neg ne10, fX11_riderOf, M_isRider h2, hs_t hb (by omega), bd_s, if_neg ne10]
  rcases rng p2 7 (by decide) with ⟨q1, q2, q3⟩ | ⟨k, q1, rfl, q3⟩
  · refine ⟨-1, ?_, ?_⟩
    · rcases q2 with q2 | ⟨q2, q4⟩
      · rw [if_pos q2]
      · rw [if_neg q2, if_neg (show ¬ p2 ≤ 7 from q4)]
    · rw [show fX11_in p2 0 7 = some 0 from q1, bd_s, if_pos rfl]
  rw [show fX11_in (nI k) 0 7 = some 1 from q3, bd_s, if_neg ne10, if_neg (nI_pos (by omega)), if_pos (show nI k ≤ 7 from nI_le (b := 7) q1 (by decide))]
  by_cases hc : 2 ≤ k ∧ k ≤ 5
  · rw [if_neg (show ¬ nI k < 2 from nI_nlt (b := 2) hc.1 (by omega)), if_neg (show ¬ (5 : Int32) < nI k from nI_nlt (a := 5) hc.2 (by omega)), X_hasRide hI hR hb, bd_s, if_neg (show ¬ nI k = 0 from fun e => by have := (nI_eq (a := k) (b := 0) (by omega) (by decide)).mp e; omega), if_neg (show ¬ nI k = 1 from fun e => by have := (nI_eq (a := k) (b := 1) (by omega) (by decide)).mp e; omega), if_pos (show nI k ≤ 5 from nI_le (b := 5) hc.2 (by decide)), M_rides (by omega) (hrd b hb) hb16, bd_s]
    by_cases hr : rdN (σ 0) b = 0
    · exact ⟨-4, by rw [if_pos hr], by rw [if_pos hr]⟩
    rw [if_neg hr, if_neg hr]
    rcases (show k = 2 ∨ k = 3 ∨ k = 4 ∨ k = 5 by omega) with rfl | rfl | rfl | rfl
    · refine ⟨σ 0 (128 + 9 * b + 2), ?_, ?_⟩
      · rw [fX10_rideOf, if_pos (show nI 2 = 2 from rfl), gi_nI (by omega) (by decide), cl_nI (by omega), r4 b (by omega), bd_s, mp, if_neg (rdN_1.mp hr)]
      · rw [if_pos (show nI 2 = 2 from rfl), M_ofR2 (by omega), bd_s]
    · refine ⟨σ 0 4 - σ 0 (128 + 9 * b + 3), ?_, ?_⟩
      · rw [fX10_rideOf, if_neg (show ¬ nI 3 = 2 by decide), if_pos (show nI 3 = 3 from rfl), fX4_rideMinutes, X4_has hI hR, hs_t hb (by omega), bd_s, if_neg ne10, gi_nI (by omega) (by decide), cl_nI (by omega), r5 b (by omega), a4, bd_s, bd_s]
      · rw [if_neg (show ¬ nI 3 = 2 by decide), if_pos (show nI 3 = 3 from rfl), M_ofR3 (by omega), bd_s, ct4]
    · refine ⟨σ 0 (128 + 9 * b + 4), ?_, ?_⟩
      · rw [fX10_rideOf, if_neg (show ¬ nI 4 = 2 by decide), if_neg (show ¬ nI 4 = 3 by decide), if_pos (show nI 4 = 4 from rfl), gi_nI (by omega) (by decide), cl_nI (by omega), r6 b (by omega), bd_s]
      · rw [if_neg (show ¬ nI 4 = 2 by decide), if_neg (show ¬ nI 4 = 3 by decide), if_pos (show nI 4 = 4 from rfl), M_ofR4 (by omega), bd_s]
    · obtain ⟨F, -, f1, f2⟩ := fee_b hI hR hb hr
      refine ⟨nI F, ?_, ?_⟩
      · rw [fX10_rideOf, if_neg (show ¬ nI 5 = 2 by decide), if_neg (show ¬ nI 5 = 3 by decide), if_neg (show ¬ nI 5 = 4 by decide), a4, f1, bd_s, bd_s]
      · rw [if_neg (show ¬ nI 5 = 2 by decide), if_neg (show ¬ nI 5 = 3 by decide), if_neg (show ¬ nI 5 = 4 by decide), f2 σ rfl, bd_s]
  rcases (show k = 0 ∨ k = 1 ∨ k = 6 ∨ k = 7 by omega) with rfl | rfl | rfl | rfl
  · refine ⟨σ 0 (128 + 9 * b), ?_, ?_⟩
    · rw [if_pos (show nI 0 < 2 by decide), fX10_riderOf_62, if_pos (show nI 0 = 0 from rfl), gi_nI (by omega) (by decide), cl_nI (by omega), r0 b (by omega)]
    · rw [if_pos (show nI 0 = 0 from rfl), M_ofR0 (by omega), bd_s]
  · refine ⟨if σ 0 (128 + 9 * b + 1) ≤ σ 0 4 then 0 else σ 0 (128 + 9 * b + 1) - σ 0 4, ?_, ?_⟩
    · rw [if_pos (show nI 1 < 2 by decide), fX10_riderOf_62, if_neg (show ¬ nI 1 = 0 by decide), if_pos (show nI 1 = 1 from rfl), gi_nI (by omega) (by decide), cl_nI (by omega), r1 b (by omega), a4, bn_s, left_i hd1 ⟨tm, h4, ht⟩]
    · rw [if_neg (show ¬ nI 1 = 0 by decide), if_pos (show nI 1 = 1 from rfl), M_hasPass (by omega), M_ofR1 (by omega), bd_s, ct4]
      split
      · rw [bd_s, if_pos rfl]
      · rw [bd_s, if_neg ne10]
  · refine ⟨σ 0 (128 + 9 * b + 7), ?_, ?_⟩
    · rw [if_neg (show ¬ nI 6 < 2 by decide), if_pos (show (5 : Int32) < nI 6 by decide), fX10_riderOf_62, if_neg (show ¬ nI 6 = 0 by decide), if_neg (show ¬ nI 6 = 1 by decide), if_pos (show nI 6 = 6 from rfl), gi_nI (by omega) (by decide), cl_nI (by omega), r3 b (by omega)]
    · rw [if_neg (show ¬ nI 6 = 0 by decide), if_neg (show ¬ nI 6 = 1 by decide), if_neg (show ¬ nI 6 ≤ 5 by decide), show nI 6 + 1 = 7 from rfl, M_ofR7 (by omega), bd_s]
  · refine ⟨σ 0 (128 + 9 * b + 8), ?_, ?_⟩
    · rw [if_neg (show ¬ nI 7 < 2 by decide), if_pos (show (5 : Int32) < nI 7 by decide), fX10_riderOf_62, if_neg (show ¬ nI 7 = 0 by decide), if_neg (show ¬ nI 7 = 1 by decide), if_neg (show ¬ nI 7 = 6 by decide), gi_nI (by omega) (by decide), cl_nI (by omega), r2 b (by omega)]
    · rw [if_neg (show ¬ nI 7 = 0 by decide), if_neg (show ¬ nI 7 = 1 by decide), if_neg (show ¬ nI 7 ≤ 5 by decide), show nI 7 + 1 = 8 from rfl, M_ofR8 (by omega), bd_s]
theorem r_vanOf {x : T5} {σ : T2} (h : Rel x σ) (p1 p2 : Int32) : ∃ r, fX10_vanOf x p1 p2 = some r ∧ fX11_vanOf σ p1 p2 = some r := by
  obtain ⟨⟨⟨ns, nb, nr, nv, hI⟩, hR⟩, -⟩ := id h
  obtain ⟨⟨h0, h1, h2, h3, hs6, hb16, hr8, hv2⟩, ⟨tm, h4, ht⟩, ⟨⟨t5, h5, ht5⟩, ⟨t6, h6, ht6, ht6b⟩, ⟨t7, h7, ht7⟩⟩, hpl, hdk, hbc, hrd, hvn, hzS, hzB, hzR, hzV⟩ := id hI
  obtain ⟨⟨a0, a1, a2, a3, a4, a5⟩, ⟨s0, s1, s2, s3⟩, ⟨b0, b1, b2, b3, b4, b5⟩, ⟨r0, r1, r2, r3, r4, r5, r6, r7, r8⟩, ⟨v0, v1, v2⟩⟩ := id hR
  by_cases hb : inN p1 nv
  case neg =>
    refine ⟨-1, ?_, ?_⟩
    · rw [fX10_vanOf, X8_has hI hR, hs_f hb (by omega), bd_s, if_pos rfl]
    · rw [fX11_vanOf, M_isVan h3, hs_f hb (by omega), bd_s, if_pos rfl]
  obtain ⟨b, hb, rfl⟩ := hb
  rw [fX10_vanOf, X8_has hI hR, hs_t hb (by omega), bd_s, if_neg ne10, fX11_vanOf, M_isVan h3, hs_t hb (by omega), bd_s, if_neg ne10]
  rcases rng p2 3 (by decide) with ⟨q1, -, q3⟩ | ⟨k, q1, rfl, q3⟩
  · refine ⟨-1, ?_, ?_⟩
    · rw [if_neg (show ¬ p2 = 0 from q3 0 (by omega)), if_neg (show ¬ p2 = 1 from q3 1 (by omega)), if_neg (show ¬ p2 = 2 from q3 2 (by omega)), if_neg (show ¬ p2 = 3 from q3 3 (by omega))]
    · rw [show fX11_in p2 0 3 = some 0 from q1, bd_s, if_pos rfl]
  rw [show fX11_in (nI k) 0 3 = some 1 from q3, bd_s, if_neg ne10]
  rcases (show k = 0 ∨ k = 1 ∨ k = 2 ∨ k = 3 by omega) with rfl | rfl | rfl | rfl
  · refine ⟨σ 0 (200 + 3 * b), ?_, ?_⟩
    · rw [if_pos (show nI 0 = 0 from rfl), gi_nI (by omega) (by decide), cl_nI (by omega), v0 b (by omega)]
    · rw [if_neg (show ¬ (2 : Int32) ≤ nI 0 by decide), show fX11_ofVan σ (nI b) (nI 0) = _ from M_ofV0 (by omega), bd_s]
  · refine ⟨σ 0 (200 + 3 * b + 1), ?_, ?_⟩
    · rw [if_neg (show ¬ nI 1 = 0 by decide), if_pos (show nI 1 = 1 from rfl), gi_nI (by omega) (by decide), cl_nI (by omega), v1 b (by omega)]
    · rw [if_neg (show ¬ (2 : Int32) ≤ nI 1 by decide), show fX11_ofVan σ (nI b) (nI 1) = _ from M_ofV1 (by omega), bd_s]
  · refine ⟨ts (σ 0) 2 (nI b) nb, ?_, ?_⟩
    · rw [if_neg (show ¬ nI 2 = 0 by decide), if_neg (show ¬ nI 2 = 1 by decide), if_pos (show nI 2 = 2 from rfl), X_setAt hI hR 2 (by omega), bd_s]
    · rw [if_pos (show (2 : Int32) ≤ nI 2 by decide), if_pos (show nI 2 = 2 from rfl), M_those h1 hb16, bd_s]
  · refine ⟨if σ 0 (200 + 3 * b + 2) ≤ σ 0 4 then 0 else σ 0 (200 + 3 * b + 2) - σ 0 4, ?_, ?_⟩
    · rw [if_neg (show ¬ nI 3 = 0 by decide), if_neg (show ¬ nI 3 = 1 by decide), if_neg (show ¬ nI 3 = 2 by decide), if_pos (show nI 3 = 3 from rfl), fX8_minutesLeft, X8_has hI hR, hs_t hb (by omega), bd_s, if_neg ne10, gi_nI (by omega) (by decide), cl_nI (by omega), v2 b (by omega), a4, bn_s, left_i (hzV b (by omega)).2 ⟨tm, h4, ht⟩, bd_s]
    · rw [if_pos (show (2 : Int32) ≤ nI 3 by decide), if_neg (show ¬ nI 3 = 2 by decide), M_under (by omega), bd_s, M_ofV2 (by omega), bd_s, ct4]
      unfold uw
      split
      · rw [if_pos rfl]
      · rw [if_neg ne10]
theorem M_where {σ : T2} {nb : Nat} (st : Int32) (hb : σ 0 1 = nI nb) (h16 : nb ≤ 16) : fX11_inState σ st = some (sm (fun k => if σ 0 (32 + 6 * k) = st then 1 else 0) nb) := M_where_lp hb h16 fuel 0 _ (by omega) (by unfold fuel; omega) rfl
theorem X_where {B : T2} {g : T1} {nb : Nat} (st : Int32) (hb : B 6 0 = nI nb) (h16 : nb ≤ 16) (h0 : ∀ k, k < 16 → B 0 k = g (32 + 6 * k)) : fX1_countWhere B st = some (sm (fun k => if g (32 + 6 * k) = st then 1 else 0) nb) := X_where_lp hb h16 h0 fuel 0 _ (by omega) (by unfold fuel; omega) rfl
theorem M_allDocks {σ : T2} {ns : Nat} (hb : σ 0 0 = nI ns) (h6 : ns ≤ 6) : fX11_allDocks σ = some (sm (fun k => σ 0 (8 + 4 * k + 1)) ns) := M_allDocks_lp hb h6 fuel 0 _ (by omega) (by unfold fuel; omega) rfl
theorem X_allDocks {B : T2} {g : T1} {ns : Nat} (hb : B 4 0 = nI ns) (h6 : ns ≤ 6) (h0 : ∀ k, k < 6 → B 1 k = g (8 + 4 * k + 1)) : fX6_allDocks B = some (sm (fun k => g (8 + 4 * k + 1)) ns) := X_allDocks_lp hb h6 h0 fuel 0 _ (by omega) (by unfold fuel; omega) rfl
theorem r_count {x : T5} {σ : T2} (h : Rel x σ) (p1 : Int32) : ∃ r, fX10_count x p1 = some r ∧ fX11_count σ p1 = some r := by
  obtain ⟨⟨⟨ns, nb, nr, nv, hI⟩, hR⟩, -⟩ := id h
  obtain ⟨⟨h0, h1, h2, h3, hs6, hb16, hr8, hv2⟩, ⟨tm, h4, ht⟩, ⟨⟨t5, h5, ht5⟩, ⟨t6, h6, ht6, ht6b⟩, ⟨t7, h7, ht7⟩⟩, hpl, hdk, hbc, hrd, hvn, hzS, hzB, hzR, hzV⟩ := id hI
  obtain ⟨⟨a0, a1, a2, a3, a4, a5⟩, ⟨s0, s1, s2, s3⟩, ⟨b0, b1, b2, b3, b4, b5⟩, ⟨r0, r1, r2, r3, r4, r5, r6, r7, r8⟩, ⟨v0, v1, v2⟩⟩ := id hR
  obtain ⟨-, -, ⟨n, o, hn, hH⟩, hk, tl, htl, htl2, htl3, -⟩ := id h
  rw [fX10_count, X_isSetting]
  rcases rng p1 22 (by decide) with ⟨-, q2, q3⟩ | ⟨k, q1, rfl, -⟩
  · have e0 : ¬ inN (p1 - 20) 3 := by
      rintro ⟨j, hj, ej⟩
      refine q3 (j + 20) (by omega) ?_
      rw [← nI_add, ← ej]
      exact (Int32.sub_add_cancel _ _).symm
    have e1 : fX11_in p1 20 22 = some 0 := by
      rcases q2 with q2 | ⟨q2, q4⟩
      · exact M_in0 (Int32.lt_trans q2 (by decide))
      · exact M_in1 (Int32.not_lt.mpr (Int32.le_trans (by decide) (Int32.le_of_lt (Int32.not_le.mp q4)))) (Int32.not_le.mp q4)
    refine ⟨-1, ?_, ?_⟩
    · rw [hs_f e0 (by omega), bd_s, if_pos rfl, if_neg (show ¬ p1 = 0 from q3 0 (by omega)), if_neg (show ¬ p1 = 1 from q3 1 (by omega)), if_neg (show ¬ p1 = 2 from q3 2 (by omega)), if_neg (show ¬ p1 = 3 from q3 3 (by omega)), if_neg (show ¬ p1 = 4 from q3 4 (by omega)), if_neg (show ¬ p1 = 5 from q3 5 (by omega)), if_neg (show ¬ p1 = 6 from q3 6 (by omega)), if_neg (show ¬ p1 = 7 from q3 7 (by omega)), if_neg (show ¬ p1 = 8 from q3 8 (by omega)), if_neg (show ¬ p1 = 9 from q3 9 (by omega)), if_neg (show ¬ p1 = 10 from q3 10 (by omega)), if_neg (show ¬ p1 = 11 from q3 11 (by omega)), if_neg (show ¬ p1 = 12 from q3 12 (by omega)), if_neg (show ¬ p1 = 13 from q3 13 (by omega)), if_neg (show ¬ p1 = 14 from q3 14 (by omega)), if_neg (show ¬ p1 = 15 from q3 15 (by omega))]
    · rw [fX11_count, if_neg (show ¬ p1 = 0 from q3 0 (by omega)), if_neg (show ¬ p1 = 1 from q3 1 (by omega)), if_neg (show ¬ p1 = 2 from q3 2 (by omega)), if_neg (show ¬ p1 = 3 from q3 3 (by omega)), if_neg (show ¬ p1 = 4 from q3 4 (by omega)), if_neg (show ¬ p1 = 5 from q3 5 (by omega)), if_neg (show ¬ p1 = 6 from q3 6 (by omega)), if_neg (show ¬ p1 = 7 from q3 7 (by omega)), if_neg (show ¬ p1 = 8 from q3 8 (by omega)), if_neg (show ¬ p1 = 9 from q3 9 (by omega)), if_neg (show ¬ p1 = 10 from q3 10 (by omega)), if_neg (show ¬ p1 = 11 from q3 11 (by omega)), if_neg (show ¬ p1 = 12 from q3 12 (by omega)), if_neg (show ¬ p1 = 13 from q3 13 (by omega)), if_neg (show ¬ p1 = 14 from q3 14 (by omega)), if_neg (show ¬ p1 = 15 from q3 15 (by omega)), e1, bd_s, if_pos rfl]
  rcases (show k = 0 ∨ k = 1 ∨ k = 2 ∨ k = 3 ∨ k = 4 ∨ k = 5 ∨ k = 6 ∨ k = 7 ∨ k = 8 ∨ k = 9 ∨ k = 10 ∨ k = 11 ∨ k = 12 ∨ k = 13 ∨ k = 14 ∨ k = 15 ∨ k = 16 ∨ k = 17 ∨ k = 18 ∨ k = 19 ∨ k = 20 ∨ k = 21 ∨ k = 22 by omega) with rfl | rfl | rfl | rfl | rfl | rfl | rfl | rfl | rfl | rfl | rfl | rfl | rfl | rfl | rfl | rfl | rfl | rfl | rfl | rfl | rfl | rfl | rfl
  · refine ⟨σ 0 0, ?_, ?_⟩
    · rw [show hs (nI 0 - 20) 3 = some 0 from by decide, bd_s, if_pos rfl, if_pos (show nI 0 = 0 from rfl), a0]
    · rw [fX11_count, if_pos (show nI 0 = 0 from rfl), show gi (nI 0) 206 _ = _ from gi_nI (n := 206) (by decide) (by decide), cl_nI (by decide)]
  · refine ⟨σ 0 1, ?_, ?_⟩
    · rw [show hs (nI 1 - 20) 3 = some 0 from by decide, bd_s, if_pos rfl, if_neg (show ¬ nI 1 = 0 by decide), if_pos (show nI 1 = 1 from rfl), a1]
    · rw [fX11_count, if_neg (show ¬ nI 1 = 0 by decide), if_pos (show nI 1 = 1 from rfl), show gi (nI 1) 206 _ = _ from gi_nI (n := 206) (by decide) (by decide), cl_nI (by decide)]
  · refine ⟨σ 0 2, ?_, ?_⟩
    · rw [show hs (nI 2 - 20) 3 = some 0 from by decide, bd_s, if_pos rfl, if_neg (show ¬ nI 2 = 0 by decide), if_neg (show ¬ nI 2 = 1 by decide), if_pos (show nI 2 = 2 from rfl), a2]
    · rw [fX11_count, if_neg (show ¬ nI 2 = 0 by decide), if_neg (show ¬ nI 2 = 1 by decide), if_pos (show nI 2 = 2 from rfl), show gi (nI 2) 206 _ = _ from gi_nI (n := 206) (by decide) (by decide), cl_nI (by decide)]
  · refine ⟨σ 0 3, ?_, ?_⟩
    · rw [show hs (nI 3 - 20) 3 = some 0 from by decide, bd_s, if_pos rfl, if_neg (show ¬ nI 3 = 0 by decide), if_neg (show ¬ nI 3 = 1 by decide), if_neg (show ¬ nI 3 = 2 by decide), if_pos (show nI 3 = 3 from rfl), a3]
    · rw [fX11_count, if_neg (show ¬ nI 3 = 0 by decide), if_neg (show ¬ nI 3 = 1 by decide), if_neg (show ¬ nI 3 = 2 by decide), if_pos (show nI 3 = 3 from rfl), show gi (nI 3) 206 _ = _ from gi_nI (n := 206) (by decide) (by decide), cl_nI (by decide)]
  · refine ⟨σ 0 4, ?_, ?_⟩
    · rw [show hs (nI 4 - 20) 3 = some 0 from by decide, bd_s, if_pos rfl, if_neg (show ¬ nI 4 = 0 by decide), if_neg (show ¬ nI 4 = 1 by decide), if_neg (show ¬ nI 4 = 2 by decide), if_neg (show ¬ nI 4 = 3 by decide), if_pos (show nI 4 = 4 from rfl), a4]
    · rw [fX11_count, if_neg (show ¬ nI 4 = 0 by decide), if_neg (show ¬ nI 4 = 1 by decide), if_neg (show ¬ nI 4 = 2 by decide), if_neg (show ¬ nI 4 = 3 by decide), if_pos (show nI 4 = 4 from rfl), show gi (nI 4) 206 _ = _ from gi_nI (n := 206) (by decide) (by decide), cl_nI (by decide)]
  · refine ⟨sm (fun k => if σ 0 (32 + 6 * k) = 0 then 1 else 0) nb, ?_, ?_⟩
    · rw [show hs (nI 5 - 20) 3 = some 0 from by decide, bd_s, if_pos rfl, if_neg (show ¬ nI 5 = 0 by decide), if_neg (show ¬ nI 5 = 1 by decide), if_neg (show ¬ nI 5 = 2 by decide), if_neg (show ¬ nI 5 = 3 by decide), if_neg (show ¬ nI 5 = 4 by decide), if_pos (show nI 5 = 5 from rfl), X_where 0 (a1.trans h1) hb16 b0, bd_s]
    · rw [fX11_count, if_neg (show ¬ nI 5 = 0 by decide), if_neg (show ¬ nI 5 = 1 by decide), if_neg (show ¬ nI 5 = 2 by decide), if_neg (show ¬ nI 5 = 3 by decide), if_neg (show ¬ nI 5 = 4 by decide), if_pos (show nI 5 = 5 from rfl), show nI 5 - 5 = 0 from by decide, M_where 0 h1 hb16, bd_s]
  · refine ⟨sm (fun k => if σ 0 (32 + 6 * k) = 1 then 1 else 0) nb, ?_, ?_⟩
    · rw [show hs (nI 6 - 20) 3 = some 0 from by decide, bd_s, if_pos rfl, if_neg (show ¬ nI 6 = 0 by decide), if_neg (show ¬ nI 6 = 1 by decide), if_neg (show ¬ nI 6 = 2 by decide), if_neg (show ¬ nI 6 = 3 by decide), if_neg (show ¬ nI 6 = 4 by decide), if_neg (show ¬ nI 6 = 5 by decide), if_pos (show nI 6 = 6 from rfl), X_where 1 (a1.trans h1) hb16 b0, bd_s]
    · rw [fX11_count, if_neg (show ¬ nI 6 = 0 by decide), if_neg (show ¬ nI 6 = 1 by decide), if_neg (show ¬ nI 6 = 2 by decide), if_neg (show ¬ nI 6 = 3 by decide), if_neg (show ¬ nI 6 = 4 by decide), if_neg (show ¬ nI 6 = 5 by decide), if_pos (show nI 6 = 6 from rfl), show nI 6 - 5 = 1 from by decide, M_where 1 h1 hb16, bd_s]
  · refine ⟨sm (fun k => if σ 0 (32 + 6 * k) = 2 then 1 else 0) nb, ?_, ?_⟩
    · rw [show hs (nI 7 - 20) 3 = some 0 from by decide, bd_s, if_pos rfl, if_neg (show ¬ nI 7 = 0 by decide), if_neg (show ¬ nI 7 = 1 by decide), if_neg (show ¬ nI 7 = 2 by decide), if_neg (show ¬ nI 7 = 3 by decide), if_neg (show ¬ nI 7 = 4 by decide), if_neg (show ¬ nI 7 = 5 by decide), if_neg (show ¬ nI 7 = 6 by decide), if_pos (show nI 7 = 7 from rfl), X_where 2 (a1.trans h1) hb16 b0, bd_s]
    · rw [fX11_count, if_neg (show ¬ nI 7 = 0 by decide), if_neg (show ¬ nI 7 = 1 by decide), if_neg (show ¬ nI 7 = 2 by decide), if_neg (show ¬ nI 7 = 3 by decide), if_neg (show ¬ nI 7 = 4 by decide), if_neg (show ¬ nI 7 = 5 by decide), if_neg (show ¬ nI 7 = 6 by decide), if_pos (show nI 7 = 7 from rfl), show nI 7 - 5 = 2 from by decide, M_where 2 h1 hb16, bd_s]
  · refine ⟨sm (fun k => if σ 0 (32 + 6 * k) = 3 then 1 else 0) nb, ?_, ?_⟩
    · rw [show hs (nI 8 - 20) 3 = some 0 from by decide, bd_s, if_pos rfl, if_neg (show ¬ nI 8 = 0 by decide), if_neg (show ¬ nI 8 = 1 by decide), if_neg (show ¬ nI 8 = 2 by decide), if_neg (show ¬ nI 8 = 3 by decide), if_neg (show ¬ nI 8 = 4 by decide), if_neg (show ¬ nI 8 = 5 by decide), if_neg (show ¬ nI 8 = 6 by decide), if_neg (show ¬ nI 8 = 7 by decide), if_pos (show nI 8 = 8 from rfl), X_where 3 (a1.trans h1) hb16 b0, bd_s]
    · rw [fX11_count, if_neg (show ¬ nI 8 = 0 by decide), if_neg (show ¬ nI 8 = 1 by decide), if_neg (show ¬ nI 8 = 2 by decide), if_neg (show ¬ nI 8 = 3 by decide), if_neg (show ¬ nI 8 = 4 by decide), if_neg (show ¬ nI 8 = 5 by decide), if_neg (show ¬ nI 8 = 6 by decide), if_neg (show ¬ nI 8 = 7 by decide), if_pos (show nI 8 = 8 from rfl), show nI 8 - 5 = 3 from by decide, M_where 3 h1 hb16, bd_s]
  · refine ⟨cf (σ 0) nb, ?_, ?_⟩
    · rw [show hs (nI 9 - 20) 3 = some 0 from by decide, bd_s, if_pos rfl, if_neg (show ¬ nI 9 = 0 by decide), if_neg (show ¬ nI 9 = 1 by decide), if_neg (show ¬ nI 9 = 2 by decide), if_neg (show ¬ nI 9 = 3 by decide), if_neg (show ¬ nI 9 = 4 by decide), if_neg (show ¬ nI 9 = 5 by decide), if_neg (show ¬ nI 9 = 6 by decide), if_neg (show ¬ nI 9 = 7 by decide), if_neg (show ¬ nI 9 = 8 by decide), if_pos (show nI 9 = 9 from rfl), X_faulty (a1.trans h1) hb16 b3, bd_s]
    · rw [fX11_count, if_neg (show ¬ nI 9 = 0 by decide), if_neg (show ¬ nI 9 = 1 by decide), if_neg (show ¬ nI 9 = 2 by decide), if_neg (show ¬ nI 9 = 3 by decide), if_neg (show ¬ nI 9 = 4 by decide), if_neg (show ¬ nI 9 = 5 by decide), if_neg (show ¬ nI 9 = 6 by decide), if_neg (show ¬ nI 9 = 7 by decide), if_neg (show ¬ nI 9 = 8 by decide), if_pos (show nI 9 = 9 from rfl), M_faulty h1 hb16, bd_s]
  · refine ⟨sm (fun k => σ 0 (8 + 4 * k + 1)) ns, ?_, ?_⟩
    · rw [show hs (nI 10 - 20) 3 = some 0 from by decide, bd_s, if_pos rfl, if_neg (show ¬ nI 10 = 0 by decide), if_neg (show ¬ nI 10 = 1 by decide), if_neg (show ¬ nI 10 = 2 by decide), if_neg (show ¬ nI 10 = 3 by decide), if_neg (show ¬ nI 10 = 4 by decide), if_neg (show ¬ nI 10 = 5 by decide), if_neg (show ¬ nI 10 = 6 by decide), if_neg (show ¬ nI 10 = 7 by decide), if_neg (show ¬ nI 10 = 8 by decide), if_neg (show ¬ nI 10 = 9 by decide), if_pos (show nI 10 = 10 from rfl), X_allDocks (a0.trans h0) hs6 s1, bd_s]
    · rw [fX11_count, if_neg (show ¬ nI 10 = 0 by decide), if_neg (show ¬ nI 10 = 1 by decide), if_neg (show ¬ nI 10 = 2 by decide), if_neg (show ¬ nI 10 = 3 by decide), if_neg (show ¬ nI 10 = 4 by decide), if_neg (show ¬ nI 10 = 5 by decide), if_neg (show ¬ nI 10 = 6 by decide), if_neg (show ¬ nI 10 = 7 by decide), if_neg (show ¬ nI 10 = 8 by decide), if_neg (show ¬ nI 10 = 9 by decide), if_pos (show nI 10 = 10 from rfl), M_allDocks h0 hs6, bd_s]
  · refine ⟨sm (fun k => σ 0 (128 + 9 * k)) nr, ?_, ?_⟩
    · rw [show hs (nI 11 - 20) 3 = some 0 from by decide, bd_s, if_pos rfl, if_neg (show ¬ nI 11 = 0 by decide), if_neg (show ¬ nI 11 = 1 by decide), if_neg (show ¬ nI 11 = 2 by decide), if_neg (show ¬ nI 11 = 3 by decide), if_neg (show ¬ nI 11 = 4 by decide), if_neg (show ¬ nI 11 = 5 by decide), if_neg (show ¬ nI 11 = 6 by decide), if_neg (show ¬ nI 11 = 7 by decide), if_neg (show ¬ nI 11 = 8 by decide), if_neg (show ¬ nI 11 = 9 by decide), if_neg (show ¬ nI 11 = 10 by decide), if_pos (show nI 11 = 11 from rfl), show fX4_allOwed (x 1 0 2) = _ from X_owed_lp (g := σ 0) (a2.trans h2) hr8 r0 fuel 0 _ (by omega) (by unfold fuel; omega) rfl, bd_s]
    · rw [fX11_count, if_neg (show ¬ nI 11 = 0 by decide), if_neg (show ¬ nI 11 = 1 by decide), if_neg (show ¬ nI 11 = 2 by decide), if_neg (show ¬ nI 11 = 3 by decide), if_neg (show ¬ nI 11 = 4 by decide), if_neg (show ¬ nI 11 = 5 by decide), if_neg (show ¬ nI 11 = 6 by decide), if_neg (show ¬ nI 11 = 7 by decide), if_neg (show ¬ nI 11 = 8 by decide), if_neg (show ¬ nI 11 = 9 by decide), if_neg (show ¬ nI 11 = 10 by decide), if_pos (show nI 11 = 11 from rfl), show fX11_owed σ = _ from M_owed_lp h2 hr8 fuel 0 _ (by omega) (by unfold fuel; omega) rfl, bd_s]
  · refine ⟨sm (un (σ 0) nb) ns, ?_, ?_⟩
    · rw [show hs (nI 12 - 20) 3 = some 0 from by decide, bd_s, if_pos rfl, if_neg (show ¬ nI 12 = 0 by decide), if_neg (show ¬ nI 12 = 1 by decide), if_neg (show ¬ nI 12 = 2 by decide), if_neg (show ¬ nI 12 = 3 by decide), if_neg (show ¬ nI 12 = 4 by decide), if_neg (show ¬ nI 12 = 5 by decide), if_neg (show ¬ nI 12 = 6 by decide), if_neg (show ¬ nI 12 = 7 by decide), if_neg (show ¬ nI 12 = 8 by decide), if_neg (show ¬ nI 12 = 9 by decide), if_neg (show ¬ nI 12 = 10 by decide), if_neg (show ¬ nI 12 = 11 by decide), if_pos (show nI 12 = 12 from rfl), show fX5_allUnevenness (x 1 0) = _ from X_unevenAll_lp hI hR (a0.trans h0) hs6 fuel 0 _ (by omega) (by unfold fuel; omega) rfl, bd_s]
    · rw [fX11_count, if_neg (show ¬ nI 12 = 0 by decide), if_neg (show ¬ nI 12 = 1 by decide), if_neg (show ¬ nI 12 = 2 by decide), if_neg (show ¬ nI 12 = 3 by decide), if_neg (show ¬ nI 12 = 4 by decide), if_neg (show ¬ nI 12 = 5 by decide), if_neg (show ¬ nI 12 = 6 by decide), if_neg (show ¬ nI 12 = 7 by decide), if_neg (show ¬ nI 12 = 8 by decide), if_neg (show ¬ nI 12 = 9 by decide), if_neg (show ¬ nI 12 = 10 by decide), if_neg (show ¬ nI 12 = 11 by decide), if_pos (show nI 12 = 12 from rfl), show fX11_unevenAll σ = _ from M_unevenAll_lp h0 hs6 h1 hb16 fuel 0 _ (by omega) (by unfold fuel; omega) rfl, bd_s]
  · refine ⟨σ 6 1, ?_, ?_⟩
    · rw [show hs (nI 13 - 20) 3 = some 0 from by decide, bd_s, if_pos rfl, if_neg (show ¬ nI 13 = 0 by decide), if_neg (show ¬ nI 13 = 1 by decide), if_neg (show ¬ nI 13 = 2 by decide), if_neg (show ¬ nI 13 = 3 by decide), if_neg (show ¬ nI 13 = 4 by decide), if_neg (show ¬ nI 13 = 5 by decide), if_neg (show ¬ nI 13 = 6 by decide), if_neg (show ¬ nI 13 = 7 by decide), if_neg (show ¬ nI 13 = 8 by decide), if_neg (show ¬ nI 13 = 9 by decide), if_neg (show ¬ nI 13 = 10 by decide), if_neg (show ¬ nI 13 = 11 by decide), if_neg (show ¬ nI 13 = 12 by decide), if_pos (show nI 13 = 13 from rfl), hH.2.2.1, hn]
    · rw [fX11_count, if_neg (show ¬ nI 13 = 0 by decide), if_neg (show ¬ nI 13 = 1 by decide), if_neg (show ¬ nI 13 = 2 by decide), if_neg (show ¬ nI 13 = 3 by decide), if_neg (show ¬ nI 13 = 4 by decide), if_neg (show ¬ nI 13 = 5 by decide), if_neg (show ¬ nI 13 = 6 by decide), if_neg (show ¬ nI 13 = 7 by decide), if_neg (show ¬ nI 13 = 8 by decide), if_neg (show ¬ nI 13 = 9 by decide), if_neg (show ¬ nI 13 = 10 by decide), if_neg (show ¬ nI 13 = 11 by decide), if_neg (show ¬ nI 13 = 12 by decide), if_pos (show nI 13 = 13 from rfl)]
  · refine ⟨σ 6 3, ?_, ?_⟩
    · rw [show hs (nI 14 - 20) 3 = some 0 from by decide, bd_s, if_pos rfl, if_neg (show ¬ nI 14 = 0 by decide), if_neg (show ¬ nI 14 = 1 by decide), if_neg (show ¬ nI 14 = 2 by decide), if_neg (show ¬ nI 14 = 3 by decide), if_neg (show ¬ nI 14 = 4 by decide), if_neg (show ¬ nI 14 = 5 by decide), if_neg (show ¬ nI 14 = 6 by decide), if_neg (show ¬ nI 14 = 7 by decide), if_neg (show ¬ nI 14 = 8 by decide), if_neg (show ¬ nI 14 = 9 by decide), if_neg (show ¬ nI 14 = 10 by decide), if_neg (show ¬ nI 14 = 11 by decide), if_neg (show ¬ nI 14 = 12 by decide), if_neg (show ¬ nI 14 = 13 by decide), if_pos (show nI 14 = 14 from rfl), htl3, htl2]
    · rw [fX11_count, if_neg (show ¬ nI 14 = 0 by decide), if_neg (show ¬ nI 14 = 1 by decide), if_neg (show ¬ nI 14 = 2 by decide), if_neg (show ¬ nI 14 = 3 by decide), if_neg (show ¬ nI 14 = 4 by decide), if_neg (show ¬ nI 14 = 5 by decide), if_neg (show ¬ nI 14 = 6 by decide), if_neg (show ¬ nI 14 = 7 by decide), if_neg (show ¬ nI 14 = 8 by decide), if_neg (show ¬ nI 14 = 9 by decide), if_neg (show ¬ nI 14 = 10 by decide), if_neg (show ¬ nI 14 = 11 by decide), if_neg (show ¬ nI 14 = 12 by decide), if_neg (show ¬ nI 14 = 13 by decide), if_pos (show nI 14 = 14 from rfl)]
  · rcases hk with ⟨k1, k2⟩ | ⟨k1, k2, -⟩
    · refine ⟨0, ?_, ?_⟩
      · rw [show hs (nI 15 - 20) 3 = some 0 from by decide, bd_s, if_pos rfl, if_neg (show ¬ nI 15 = 0 by decide), if_neg (show ¬ nI 15 = 1 by decide), if_neg (show ¬ nI 15 = 2 by decide), if_neg (show ¬ nI 15 = 3 by decide), if_neg (show ¬ nI 15 = 4 by decide), if_neg (show ¬ nI 15 = 5 by decide), if_neg (show ¬ nI 15 = 6 by decide), if_neg (show ¬ nI 15 = 7 by decide), if_neg (show ¬ nI 15 = 8 by decide), if_neg (show ¬ nI 15 = 9 by decide), if_neg (show ¬ nI 15 = 10 by decide), if_neg (show ¬ nI 15 = 11 by decide), if_neg (show ¬ nI 15 = 12 by decide), if_neg (show ¬ nI 15 = 13 by decide), if_neg (show ¬ nI 15 = 14 by decide), if_pos (show nI 15 = 15 from rfl), if_pos k2]
      · rw [fX11_count, if_neg (show ¬ nI 15 = 0 by decide), if_neg (show ¬ nI 15 = 1 by decide), if_neg (show ¬ nI 15 = 2 by decide), if_neg (show ¬ nI 15 = 3 by decide), if_neg (show ¬ nI 15 = 4 by decide), if_neg (show ¬ nI 15 = 5 by decide), if_neg (show ¬ nI 15 = 6 by decide), if_neg (show ¬ nI 15 = 7 by decide), if_neg (show ¬ nI 15 = 8 by decide), if_neg (show ¬ nI 15 = 9 by decide), if_neg (show ¬ nI 15 = 10 by decide), if_neg (show ¬ nI 15 = 11 by decide), if_neg (show ¬ nI 15 = 12 by decide), if_neg (show ¬ nI 15 = 13 by decide), if_neg (show ¬ nI 15 = 14 by decide), if_pos (show nI 15 = 15 from rfl), if_pos k1]
    · refine ⟨1, ?_, ?_⟩
      · rw [show hs (nI 15 - 20) 3 = some 0 from by decide, bd_s, if_pos rfl, if_neg (show ¬ nI 15 = 0 by decide), if_neg (show ¬ nI 15 = 1 by decide), if_neg (show ¬ nI 15 = 2 by decide), if_neg (show ¬ nI 15 = 3 by decide), if_neg (show ¬ nI 15 = 4 by decide), if_neg (show ¬ nI 15 = 5 by decide), if_neg (show ¬ nI 15 = 6 by decide), if_neg (show ¬ nI 15 = 7 by decide), if_neg (show ¬ nI 15 = 8 by decide), if_neg (show ¬ nI 15 = 9 by decide), if_neg (show ¬ nI 15 = 10 by decide), if_neg (show ¬ nI 15 = 11 by decide), if_neg (show ¬ nI 15 = 12 by decide), if_neg (show ¬ nI 15 = 13 by decide), if_neg (show ¬ nI 15 = 14 by decide), if_pos (show nI 15 = 15 from rfl), k2, if_neg ne10]
      · rw [fX11_count, if_neg (show ¬ nI 15 = 0 by decide), if_neg (show ¬ nI 15 = 1 by decide), if_neg (show ¬ nI 15 = 2 by decide), if_neg (show ¬ nI 15 = 3 by decide), if_neg (show ¬ nI 15 = 4 by decide), if_neg (show ¬ nI 15 = 5 by decide), if_neg (show ¬ nI 15 = 6 by decide), if_neg (show ¬ nI 15 = 7 by decide), if_neg (show ¬ nI 15 = 8 by decide), if_neg (show ¬ nI 15 = 9 by decide), if_neg (show ¬ nI 15 = 10 by decide), if_neg (show ¬ nI 15 = 11 by decide), if_neg (show ¬ nI 15 = 12 by decide), if_neg (show ¬ nI 15 = 13 by decide), if_neg (show ¬ nI 15 = 14 by decide), if_pos (show nI 15 = 15 from rfl), k1, if_neg ne10]
  · refine ⟨-1, ?_, ?_⟩
    · rw [show hs (nI 16 - 20) 3 = some 0 from by decide, bd_s, if_pos rfl, if_neg (show ¬ nI 16 = 0 by decide), if_neg (show ¬ nI 16 = 1 by decide), if_neg (show ¬ nI 16 = 2 by decide), if_neg (show ¬ nI 16 = 3 by decide), if_neg (show ¬ nI 16 = 4 by decide), if_neg (show ¬ nI 16 = 5 by decide), if_neg (show ¬ nI 16 = 6 by decide), if_neg (show ¬ nI 16 = 7 by decide), if_neg (show ¬ nI 16 = 8 by decide), if_neg (show ¬ nI 16 = 9 by decide), if_neg (show ¬ nI 16 = 10 by decide), if_neg (show ¬ nI 16 = 11 by decide), if_neg (show ¬ nI 16 = 12 by decide), if_neg (show ¬ nI 16 = 13 by decide), if_neg (show ¬ nI 16 = 14 by decide), if_neg (show ¬ nI 16 = 15 by decide)]
    · rw [fX11_count, if_neg (show ¬ nI 16 = 0 by decide), if_neg (show ¬ nI 16 = 1 by decide), if_neg (show ¬ nI 16 = 2 by decide), if_neg (show ¬ nI 16 = 3 by decide), if_neg (show ¬ nI 16 = 4 by decide), if_neg (show ¬ nI 16 = 5 by decide), if_neg (show ¬ nI 16 = 6 by decide), if_neg (show ¬ nI 16 = 7 by decide), if_neg (show ¬ nI 16 = 8 by decide), if_neg (show ¬ nI 16 = 9 by decide), if_neg (show ¬ nI 16 = 10 by decide), if_neg (show ¬ nI 16 = 11 by decide), if_neg (show ¬ nI 16 = 12 by decide), if_neg (show ¬ nI 16 = 13 by decide), if_neg (show ¬ nI 16 = 14 by decide), if_neg (show ¬ nI 16 = 15 by decide), show fX11_in (nI 16) 20 22 = some 0 from by decide, bd_s, if_pos rfl]
  · refine ⟨-1, ?_, ?_⟩
    · rw [show hs (nI 17 - 20) 3 = some 0 from by decide, bd_s, if_pos rfl, if_neg (show ¬ nI 17 = 0 by decide), if_neg (show ¬ nI 17 = 1 by decide), if_neg (show ¬ nI 17 = 2 by decide), if_neg (show ¬ nI 17 = 3 by decide), if_neg (show ¬ nI 17 = 4 by decide), if_neg (show ¬ nI 17 = 5 by decide), if_neg (show ¬ nI 17 = 6 by decide), if_neg (show ¬ nI 17 = 7 by decide), if_neg (show ¬ nI 17 = 8 by decide), if_neg (show ¬ nI 17 = 9 by decide), if_neg (show ¬ nI 17 = 10 by decide), if_neg (show ¬ nI 17 = 11 by decide), if_neg (show ¬ nI 17 = 12 by decide), if_neg (show ¬ nI 17 = 13 by decide), if_neg (show ¬ nI 17 = 14 by decide), if_neg (show ¬ nI 17 = 15 by decide)]
    · rw [fX11_count, if_neg (show ¬ nI 17 = 0 by decide), if_neg (show ¬ nI 17 = 1 by decide), if_neg (show ¬ nI 17 = 2 by decide), if_neg (show ¬ nI 17 = 3 by decide), if_neg (show ¬ nI 17 = 4 by decide), if_neg (show ¬ nI 17 = 5 by decide), if_neg (show ¬ nI 17 = 6 by decide), if_neg (show ¬ nI 17 = 7 by decide), if_neg (show ¬ nI 17 = 8 by decide), if_neg (show ¬ nI 17 = 9 by decide), if_neg (show ¬ nI 17 = 10 by decide), if_neg (show ¬ nI 17 = 11 by decide), if_neg (show ¬ nI 17 = 12 by decide), if_neg (show ¬ nI 17 = 13 by decide), if_neg (show ¬ nI 17 = 14 by decide), if_neg (show ¬ nI 17 = 15 by decide), show fX11_in (nI 17) 20 22 = some 0 from by decide, bd_s, if_pos rfl]
  · refine ⟨-1, ?_, ?_⟩
    · rw [show hs (nI 18 - 20) 3 = some 0 from by decide, bd_s, if_pos rfl, if_neg (show ¬ nI 18 = 0 by decide), if_neg (show ¬ nI 18 = 1 by decide), if_neg (show ¬ nI 18 = 2 by decide), if_neg (show ¬ nI 18 = 3 by decide), if_neg (show ¬ nI 18 = 4 by decide), if_neg (show ¬ nI 18 = 5 by decide), if_neg (show ¬ nI 18 = 6 by decide), if_neg (show ¬ nI 18 = 7 by decide), if_neg (show ¬ nI 18 = 8 by decide), if_neg (show ¬ nI 18 = 9 by decide), if_neg (show ¬ nI 18 = 10 by decide), if_neg (show ¬ nI 18 = 11 by decide), if_neg (show ¬ nI 18 = 12 by decide), if_neg (show ¬ nI 18 = 13 by decide), if_neg (show ¬ nI 18 = 14 by decide), if_neg (show ¬ nI 18 = 15 by decide)]
    · rw [fX11_count, if_neg (show ¬ nI 18 = 0 by decide), if_neg (show ¬ nI 18 = 1 by decide), if_neg (show ¬ nI 18 = 2 by decide), if_neg (show ¬ nI 18 = 3 by decide), if_neg (show ¬ nI 18 = 4 by decide), if_neg (show ¬ nI 18 = 5 by decide), if_neg (show ¬ nI 18 = 6 by decide), if_neg (show ¬ nI 18 = 7 by decide), if_neg (show ¬ nI 18 = 8 by decide), if_neg (show ¬ nI 18 = 9 by decide), if_neg (show ¬ nI 18 = 10 by decide), if_neg (show ¬ nI 18 = 11 by decide), if_neg (show ¬ nI 18 = 12 by decide), if_neg (show ¬ nI 18 = 13 by decide), if_neg (show ¬ nI 18 = 14 by decide), if_neg (show ¬ nI 18 = 15 by decide), show fX11_in (nI 18) 20 22 = some 0 from by decide, bd_s, if_pos rfl]
  · refine ⟨-1, ?_, ?_⟩
    · rw [show hs (nI 19 - 20) 3 = some 0 from by decide, bd_s, if_pos rfl, if_neg (show ¬ nI 19 = 0 by decide), if_neg (show ¬ nI 19 = 1 by decide), if_neg (show ¬ nI 19 = 2 by decide), if_neg (show ¬ nI 19 = 3 by decide), if_neg (show ¬ nI 19 = 4 by decide), if_neg (show ¬ nI 19 = 5 by decide), if_neg (show ¬ nI 19 = 6 by decide), if_neg (show ¬ nI 19 = 7 by decide), if_neg (show ¬ nI 19 = 8 by decide), if_neg (show ¬ nI 19 = 9 by decide), if_neg (show ¬ nI 19 = 10 by decide), if_neg (show ¬ nI 19 = 11 by decide), if_neg (show ¬ nI 19 = 12 by decide), if_neg (show ¬ nI 19 = 13 by decide), if_neg (show ¬ nI 19 = 14 by decide), if_neg (show ¬ nI 19 = 15 by decide)]
    · rw [fX11_count, if_neg (show ¬ nI 19 = 0 by decide), if_neg (show ¬ nI 19 = 1 by decide), if_neg (show ¬ nI 19 = 2 by decide), if_neg (show ¬ nI 19 = 3 by decide), if_neg (show ¬ nI 19 = 4 by decide), if_neg (show ¬ nI 19 = 5 by decide), if_neg (show ¬ nI 19 = 6 by decide), if_neg (show ¬ nI 19 = 7 by decide), if_neg (show ¬ nI 19 = 8 by decide), if_neg (show ¬ nI 19 = 9 by decide), if_neg (show ¬ nI 19 = 10 by decide), if_neg (show ¬ nI 19 = 11 by decide), if_neg (show ¬ nI 19 = 12 by decide), if_neg (show ¬ nI 19 = 13 by decide), if_neg (show ¬ nI 19 = 14 by decide), if_neg (show ¬ nI 19 = 15 by decide), show fX11_in (nI 19) 20 22 = some 0 from by decide, bd_s, if_pos rfl]
  · refine ⟨σ 0 (5 + 0), ?_, ?_⟩
    · rw [show hs (nI 20 - 20) 3 = some 1 from by decide, bd_s, if_neg ne10, show nI 20 - 20 = nI 0 from by decide, gi_nI (by decide) (by decide), cl_nI (by decide), a5 0 (by decide)]
    · rw [fX11_count, if_neg (show ¬ nI 20 = 0 by decide), if_neg (show ¬ nI 20 = 1 by decide), if_neg (show ¬ nI 20 = 2 by decide), if_neg (show ¬ nI 20 = 3 by decide), if_neg (show ¬ nI 20 = 4 by decide), if_neg (show ¬ nI 20 = 5 by decide), if_neg (show ¬ nI 20 = 6 by decide), if_neg (show ¬ nI 20 = 7 by decide), if_neg (show ¬ nI 20 = 8 by decide), if_neg (show ¬ nI 20 = 9 by decide), if_neg (show ¬ nI 20 = 10 by decide), if_neg (show ¬ nI 20 = 11 by decide), if_neg (show ¬ nI 20 = 12 by decide), if_neg (show ¬ nI 20 = 13 by decide), if_neg (show ¬ nI 20 = 14 by decide), if_neg (show ¬ nI 20 = 15 by decide), show fX11_in (nI 20) 20 22 = some 1 from by decide, bd_s, if_neg ne10, show (5 : Int32) + nI 20 - 20 = nI 5 from by decide, gi_nI (by decide) (by decide), cl_nI (by decide)]
  · refine ⟨σ 0 (5 + 1), ?_, ?_⟩
    · rw [show hs (nI 21 - 20) 3 = some 1 from by decide, bd_s, if_neg ne10, show nI 21 - 20 = nI 1 from by decide, gi_nI (by decide) (by decide), cl_nI (by decide), a5 1 (by decide)]
    · rw [fX11_count, if_neg (show ¬ nI 21 = 0 by decide), if_neg (show ¬ nI 21 = 1 by decide), if_neg (show ¬ nI 21 = 2 by decide), if_neg (show ¬ nI 21 = 3 by decide), if_neg (show ¬ nI 21 = 4 by decide), if_neg (show ¬ nI 21 = 5 by decide), if_neg (show ¬ nI 21 = 6 by decide), if_neg (show ¬ nI 21 = 7 by decide), if_neg (show ¬ nI 21 = 8 by decide), if_neg (show ¬ nI 21 = 9 by decide), if_neg (show ¬ nI 21 = 10 by decide), if_neg (show ¬ nI 21 = 11 by decide), if_neg (show ¬ nI 21 = 12 by decide), if_neg (show ¬ nI 21 = 13 by decide), if_neg (show ¬ nI 21 = 14 by decide), if_neg (show ¬ nI 21 = 15 by decide), show fX11_in (nI 21) 20 22 = some 1 from by decide, bd_s, if_neg ne10, show (5 : Int32) + nI 21 - 20 = nI 6 from by decide, gi_nI (by decide) (by decide), cl_nI (by decide)]
  · refine ⟨σ 0 (5 + 2), ?_, ?_⟩
    · rw [show hs (nI 22 - 20) 3 = some 1 from by decide, bd_s, if_neg ne10, show nI 22 - 20 = nI 2 from by decide, gi_nI (by decide) (by decide), cl_nI (by decide), a5 2 (by decide)]
    · rw [fX11_count, if_neg (show ¬ nI 22 = 0 by decide), if_neg (show ¬ nI 22 = 1 by decide), if_neg (show ¬ nI 22 = 2 by decide), if_neg (show ¬ nI 22 = 3 by decide), if_neg (show ¬ nI 22 = 4 by decide), if_neg (show ¬ nI 22 = 5 by decide), if_neg (show ¬ nI 22 = 6 by decide), if_neg (show ¬ nI 22 = 7 by decide), if_neg (show ¬ nI 22 = 8 by decide), if_neg (show ¬ nI 22 = 9 by decide), if_neg (show ¬ nI 22 = 10 by decide), if_neg (show ¬ nI 22 = 11 by decide), if_neg (show ¬ nI 22 = 12 by decide), if_neg (show ¬ nI 22 = 13 by decide), if_neg (show ¬ nI 22 = 14 by decide), if_neg (show ¬ nI 22 = 15 by decide), show fX11_in (nI 22) 20 22 = some 1 from by decide, bd_s, if_neg ne10, show (5 : Int32) + nI 22 - 20 = nI 7 from by decide, gi_nI (by decide) (by decide), cl_nI (by decide)]
