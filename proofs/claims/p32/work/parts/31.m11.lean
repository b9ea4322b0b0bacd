/-! MATH 11: copies, history -/
theorem ct8 : (8 : Int32).toNatClampNeg = 8 := by decide
theorem ct16 : (16 : Int32).toNatClampNeg = 16 := by decide
theorem IG_congr {g g' : T1} {ns nb nr nv : Nat} (hI : IG g ns nb nr nv) (ho : ∀ i, i < 206 → g' i = g i) : IG g' ns nb nr nv := by
  obtain ⟨⟨h0, h1, h2, h3, hs6, hb16, hr8, hv2⟩, ⟨tm, h4, ht⟩, ⟨⟨t5, h5, ht5⟩, ⟨t6, h6, ht6, ht6b⟩, ⟨t7, h7, ht7⟩⟩, hpl, hdk, hbc, hrd, hvn, hzS, hzB, hzR, hzV⟩ := hI
  have cwe : ∀ st wh, cw g' st wh nb = cw g st wh nb := fun st wh => cw_congr nb (fun j hj => ⟨ho _ (by omega), ho _ (by omega)⟩)
  refine ⟨⟨by rw [ho _ (by omega)]; exact h0, by rw [ho _ (by omega)]; exact h1, by rw [ho _ (by omega)]; exact h2, by rw [ho _ (by omega)]; exact h3, hs6, hb16, hr8, hv2⟩, ⟨tm, by rw [ho _ (by omega)]; exact h4, ht⟩, ⟨⟨t5, by rw [ho _ (by omega)]; exact h5, ht5⟩, ⟨t6, by rw [ho _ (by omega)]; exact h6, ht6, ht6b⟩, ⟨t7, by rw [ho _ (by omega)]; exact h7, ht7⟩⟩, ?_, ?_, ?_, ?_, ?_, ?_, ?_, ?_, ?_⟩
  · intro k hk; rw [ho _ (by omega)]; exact hpl k hk
  · intro k hk; rw [ho _ (by omega), cwe]; exact hdk k hk
  · intro k hk; rw [ho (32 + 6 * k) (by omega), ho (32 + 6 * k + 1) (by omega), ho (32 + 6 * k + 3) (by omega)]; exact hbc k hk
  · intro k hk; exact RD_congr (fun w hw => ho _ (by omega)) (hrd k hk)
  · intro k hk; rw [ho (200 + 3 * k) (by omega), ho (200 + 3 * k + 1) (by omega), cwe]; exact hvn k hk
  · intro k hk hk2; rw [ho (8 + 4 * k + 2) (by omega), ho (8 + 4 * k + 3) (by omega)]; exact hzS k hk hk2
  · intro k hk hk2; rw [ho (32 + 6 * k) (by omega), ho (32 + 6 * k + 1) (by omega), ho (32 + 6 * k + 2) (by omega), ho (32 + 6 * k + 3) (by omega), ho (32 + 6 * k + 4) (by omega), ho (32 + 6 * k + 5) (by omega)]; exact hzB k hk hk2
  · intro k hk hk2; rw [ho (128 + 9 * k) (by omega), ho (128 + 9 * k + 1) (by omega), ho (128 + 9 * k + 2) (by omega), ho (128 + 9 * k + 3) (by omega), ho (128 + 9 * k + 4) (by omega), ho (128 + 9 * k + 5) (by omega), ho (128 + 9 * k + 6) (by omega), ho (128 + 9 * k + 7) (by omega), ho (128 + 9 * k + 8) (by omega)]; exact hzR k hk hk2
  · intro k hk; rw [ho (200 + 3 * k + 2) (by omega)]; exact hzV k hk
theorem OK_congr {g g' : T1} (hI : OK g) (ho : ∀ i, i < 206 → g' i = g i) : OK g' := by
  obtain ⟨ns, nb, nr, nv, hI⟩ := hI
  exact ⟨ns, nb, nr, nv, IG_congr hI ho⟩
theorem RR_congr {p : T3} {g g' : T1} (hR : RR p g) (ho : ∀ i, i < 206 → g' i = g i) : RR p g' := by
  obtain ⟨⟨a0, a1, a2, a3, a4, a5⟩, ⟨s0, s1, s2, s3⟩, ⟨b0, b1, b2, b3, b4, b5⟩, ⟨r0, r1, r2, r3, r4, r5, r6, r7, r8⟩, ⟨v0, v1, v2⟩⟩ := hR
  refine ⟨⟨by rw [ho _ (by omega)]; exact a0, by rw [ho _ (by omega)]; exact a1, by rw [ho _ (by omega)]; exact a2, by rw [ho _ (by omega)]; exact a3, by rw [ho _ (by omega)]; exact a4, fun i hi => by rw [ho _ (by omega)]; exact a5 i hi⟩, ⟨fun k hk => by rw [ho _ (by omega)]; exact s0 k hk, fun k hk => by rw [ho _ (by omega)]; exact s1 k hk, fun k hk => by rw [ho _ (by omega)]; exact s2 k hk, fun k hk => by rw [ho _ (by omega)]; exact s3 k hk⟩, ⟨fun k hk => by rw [ho _ (by omega)]; exact b0 k hk, fun k hk => by rw [ho _ (by omega)]; exact b1 k hk, fun k hk => by rw [ho _ (by omega)]; exact b2 k hk, fun k hk => by rw [ho _ (by omega)]; exact b3 k hk, fun k hk => by rw [ho _ (by omega)]; exact b4 k hk, fun k hk => by rw [ho _ (by omega)]; exact b5 k hk⟩, ⟨fun k hk => by rw [ho _ (by omega)]; exact r0 k hk, fun k hk => by rw [ho _ (by omega)]; exact r1 k hk, fun k hk => by rw [ho _ (by omega)]; exact r2 k hk, fun k hk => by rw [ho _ (by omega)]; exact r3 k hk, fun k hk => by rw [ho _ (by omega)]; exact r4 k hk, fun k hk => by rw [ho _ (by omega)]; exact r5 k hk, fun k hk => by rw [ho _ (by omega)]; exact r6 k hk, fun k hk => by rw [ho (128 + 9 * k + 5) (by omega), ho 2 (by omega)]; exact r7 k hk, fun k hk => by rw [ho _ (by omega)]; exact r8 k hk⟩, ⟨fun k hk => by rw [ho _ (by omega)]; exact v0 k hk, fun k hk => by rw [ho _ (by omega)]; exact v1 k hk, fun k hk => by rw [ho _ (by omega)]; exact v2 k hk⟩⟩
set_option maxHeartbeats 4000000 in
theorem X_copy (d : T3) {p : T3} {g : T1} (hR : RR p g) : ∃ u, fX5_copy d p = some u ∧ RR u g := by
  unfold fX5_copy fX6_copy fX1_copy fX4_copy fX8_copy
  simp (disch := omega) only [bd_s, bn_s, ct0, ct2, ct3, ct6, ct8, ct16, sU_s, sU_n]
  refine ⟨_, rfl, ?_⟩
  obtain ⟨⟨a0, a1, a2, a3, a4, a5⟩, ⟨s0, s1, s2, s3⟩, ⟨b0, b1, b2, b3, b4, b5⟩, ⟨r0, r1, r2, r3, r4, r5, r6, r7, r8⟩, ⟨v0, v1, v2⟩⟩ := hR
  exact ⟨⟨(by (try simp (disch := omega) only [sU_n, sU_s, sb_cpy0]); exact a0), (by (try simp (disch := omega) only [sU_n, sU_s, sb_cpy0]); exact a1), (by (try simp (disch := omega) only [sU_n, sU_s, sb_cpy0]); exact a2), (by (try simp (disch := omega) only [sU_n, sU_s, sb_cpy0]); exact a3), (by (try simp (disch := omega) only [sU_n, sU_s, sb_cpy0]); exact a4), (fun i hi => by (try simp (disch := omega) only [sU_n, sU_s, sb_cpy0]); exact a5 i hi)⟩, ⟨(fun k9 hk9 => by (try simp (disch := omega) only [sU_n, sU_s, sb_cpy0]); exact s0 k9 hk9), (fun k9 hk9 => by (try simp (disch := omega) only [sU_n, sU_s, sb_cpy0]); exact s1 k9 hk9), (fun k9 hk9 => by (try simp (disch := omega) only [sU_n, sU_s, sb_cpy0]); exact s2 k9 hk9), (fun k9 hk9 => by (try simp (disch := omega) only [sU_n, sU_s, sb_cpy0]); exact s3 k9 hk9)⟩, ⟨(fun k9 hk9 => by (try simp (disch := omega) only [sU_n, sU_s, sb_cpy0]); exact b0 k9 hk9), (fun k9 hk9 => by (try simp (disch := omega) only [sU_n, sU_s, sb_cpy0]); exact b1 k9 hk9), (fun k9 hk9 => by (try simp (disch := omega) only [sU_n, sU_s, sb_cpy0]); exact b2 k9 hk9), (fun k9 hk9 => by (try simp (disch := omega) only [sU_n, sU_s, sb_cpy0]); exact b3 k9 hk9), (fun k9 hk9 => by (try simp (disch := omega) only [sU_n, sU_s, sb_cpy0]); exact b4 k9 hk9), (fun k9 hk9 => by (try simp (disch := omega) only [sU_n, sU_s, sb_cpy0]); exact b5 k9 hk9)⟩, ⟨(fun k9 hk9 => by (try simp (disch := omega) only [sU_n, sU_s, sb_cpy0]); exact r0 k9 hk9), (fun k9 hk9 => by (try simp (disch := omega) only [sU_n, sU_s, sb_cpy0]); exact r1 k9 hk9), (fun k9 hk9 => by (try simp (disch := omega) only [sU_n, sU_s, sb_cpy0]); exact r2 k9 hk9), (fun k9 hk9 => by (try simp (disch := omega) only [sU_n, sU_s, sb_cpy0]); exact r3 k9 hk9), (fun k9 hk9 => by (try simp (disch := omega) only [sU_n, sU_s, sb_cpy0]); exact r4 k9 hk9), (fun k9 hk9 => by (try simp (disch := omega) only [sU_n, sU_s, sb_cpy0]); exact r5 k9 hk9), (fun k9 hk9 => by (try simp (disch := omega) only [sU_n, sU_s, sb_cpy0]); exact r6 k9 hk9), (fun k9 hk9 => by (try simp (disch := omega) only [sU_n, sU_s, sb_cpy0]); exact r7 k9 hk9), (fun k9 hk9 => by (try simp (disch := omega) only [sU_n, sU_s, sb_cpy0]); exact r8 k9 hk9)⟩, ⟨(fun k9 hk9 => by (try simp (disch := omega) only [sU_n, sU_s, sb_cpy0]); exact v0 k9 hk9), (fun k9 hk9 => by (try simp (disch := omega) only [sU_n, sU_s, sb_cpy0]); exact v1 k9 hk9), (fun k9 hk9 => by (try simp (disch := omega) only [sU_n, sU_s, sb_cpy0]); exact v2 k9 hk9)⟩⟩
theorem M_copies_lp {f : T1} : ∀ (n j : Nat) (h : T1), j ≤ 206 → 206 - j < n → (∀ k, k < j → h k = f k) → ∃ u, fX11_copies_2 f n h (nI j) = some u ∧ ∀ k, k < 206 → u k = f k := by
  intro n
  induction n with
  | zero => intro j h h1 h2; omega
  | succ n ih =>
    intro j h h1 h2 h3
    rw [fX11_copies_2, show (206 : Int32) = nI 206 from rfl]
    by_cases hj : j = 206
    · subst hj
      exact ⟨h, by rw [if_pos (nI_le (Nat.le_refl _) (by omega))], h3⟩
    · rw [if_neg (nI_ge (by omega) (by omega)), gi_nI (by omega) (by decide), gi_nI (by omega) (by decide), bn_s, cl_nI (by omega), nI_1]
      refine ih (j + 1) _ (by omega) (by omega) (fun k hk => ?_)
      by_cases e : k = j
      · subst e; exact sU_s
      · rw [sU_n e]; exact h3 k (by omega)
theorem M_copies (f h : T1) : ∃ u, fX11_copies f h = some u ∧ ∀ k, k < 206 → u k = f k := M_copies_lp fuel 0 h (by omega) (by unfold fuel; omega) (fun k hk => by omega)
/-- the reference's history loops -/
theorem M_hist1_lp : ∀ (n j : Nat) (σ : T2) (c : Nat), j ≤ 206 → 206 - j < n → σ 6 1 = nI c → c ≤ 3 → ∃ h : T1, fX11_changes_59 n σ (nI j) = some (sU (sU σ 1 h) 6 (sU (σ 6) 1 (nI (c + 1)))) ∧ (∀ k, k < 206 → h (206 * c + k) = if k < j then σ 1 (206 * c + k) else σ 0 k) ∧ (∀ k, k < 206 * c → h k = σ 1 k) := by
  intro n
  induction n with
  | zero => intro j σ c h1 h2; omega
  | succ n ih =>
    intro j σ c h1 h2 h3 h4
    rw [fX11_changes_59, show (206 : Int32) = nI 206 from rfl]
    by_cases hj : j = 206
    · subst hj
      refine ⟨σ 1, ?_, fun k hk => by rw [if_pos hk], fun k hk => rfl⟩
      rw [if_pos (nI_le (Nat.le_refl _) (by omega)), bn_s, h3, nI_1, sU_id]
    · rw [if_neg (nI_ge (by omega) (by omega)), h3, pk_mul, nI_add, gi_nI (by omega) (by decide), gi_nI (by omega) (by decide), bn_s, cl_nI (by omega), cl_nI (by omega), nI_1]
      obtain ⟨h, e1, e2, e3⟩ := ih (j + 1) (sU σ 1 (sU (σ 1) (206 * c + j) (σ 0 j))) c (by omega) (by omega) (by rw [sU_n (by omega)]; exact h3) h4
      refine ⟨h, ?_, fun k hk => ?_, fun k hk => ?_⟩
      · rw [e1, sU_sU, sU_n (by omega)]
      · rw [e2 k hk, sU_s, sU_n (f := σ) (i := 1) (j := 0) (by omega)]
        by_cases c1 : k < j
        · rw [if_pos (by omega), if_pos c1, sU_n (by omega)]
        · rw [if_neg c1]
          by_cases c2 : k = j
          · subst c2; rw [if_pos (by omega), sU_s]
          · rw [if_neg (by omega)]
      · rw [e3 k hk, sU_s, sU_n (by omega)]
theorem M_hist2_lp : ∀ (n j : Nat) (σ : T2), j ≤ 618 → 618 - j < n → σ 6 1 = 4 → ∃ h : T1, fX11_changes_18 n σ (nI j) = fX11_changes_57 (sU (sU σ 1 h) 6 (sU (σ 6) 1 (nI 3))) ∧ (∀ k, k < 618 → h k = if k < j then σ 1 k else σ 1 (k + 206)) := by
  intro n
  induction n with
  | zero => intro j σ h1 h2; omega
  | succ n ih =>
    intro j σ h1 h2 h3
    rw [fX11_changes_18, show (618 : Int32) = nI 618 from rfl]
    by_cases hj : j = 618
    · subst hj
      refine ⟨σ 1, ?_, fun k hk => by rw [if_pos hk]⟩
      rw [if_pos (nI_le (Nat.le_refl _) (by omega)), bn_s, h3, sU_id]
      rfl
    · rw [if_neg (nI_ge (by omega) (by omega)), show (nI j : Int32) + 206 = nI (j + 206) from nI_add j 206, gi_nI (by omega) (by decide), gi_nI (by omega) (by decide), bn_s, cl_nI (by omega), cl_nI (by omega), nI_1]
      obtain ⟨h, e1, e2⟩ := ih (j + 1) (sU σ 1 (sU (σ 1) j (σ 1 (j + 206)))) (by omega) (by omega) (by rw [sU_n (by omega)]; exact h3)
      refine ⟨h, ?_, fun k hk => ?_⟩
      · rw [e1, sU_sU, sU_n (by omega)]
      · rw [e2 k hk, sU_s]
        by_cases c1 : k < j
        · rw [if_pos (by omega), if_pos c1, sU_n (by omega)]
        · rw [if_neg c1]
          by_cases c2 : k = j
          · subst c2; rw [if_pos (by omega), sU_s]
          · rw [if_neg (by omega), sU_n (by omega)]
/-- how many states stand behind a change -/
def nx (n : Nat) : Nat := if n = 4 then 4 else n + 1
theorem M_changes {σ : T2} {n : Nat} (h0 : σ 6 2 = 0) (h1 : σ 6 1 = nI n) (hn : n ≤ 4) : ∃ h : T1, fX11_changes σ = some (sU (sU σ 1 h) 6 (sU (σ 6) 1 (nI (nx n)))) ∧ (∀ i k, i + 1 < nx n → k < 206 → h (206 * i + k) = σ 1 (206 * (if n = 4 then i + 1 else i) + k)) ∧ (∀ k, k < 206 → h (206 * (nx n - 1) + k) = σ 0 k) := by
  unfold nx
  rw [fX11_changes, if_pos h0]
  by_cases e : n = 4
  · subst e
    obtain ⟨h, e1, e2⟩ := M_hist2_lp fuel 0 σ (by omega) (by unfold fuel; omega) h1
    rw [if_pos (show σ 6 1 = 4 from h1), if_pos rfl]
    obtain ⟨h', f1, f2, f3⟩ := M_hist1_lp fuel 0 (sU (sU σ 1 h) 6 (sU (σ 6) 1 (nI 3))) 3 (by omega) (by unfold fuel; omega) (by rw [sU_s, sU_s]) (by omega)
    refine ⟨h', ?_, fun i k hi hk => ?_, fun k hk => ?_⟩
    · refine e1.trans ?_
      rw [fX11_changes_57]
      refine f1.trans ?_
      rw [sU_s, sU_sU]
      refine congrArg some (funext fun a => ?_)
      by_cases a1 : a = 1
      · subst a1; simp (disch := omega) only [sU_s, sU_n]
      · by_cases a2 : a = 6
        · subst a2; simp (disch := omega) only [sU_s, sU_n]
        · simp (disch := omega) only [sU_s, sU_n]
    · rw [if_pos rfl, f3 _ (by omega), sU_n (by omega), sU_s, e2 _ (by omega), if_neg (by omega)]
      exact congrArg (σ 1) (by omega)
    · rw [f2 k hk, if_neg (by omega), sU_n (by omega), sU_n (by omega)]
  · rw [if_neg (show ¬ σ 6 1 = 4 from fun q => e ((nI_eq (a := n) (b := 4) (by omega) (by omega)).mp (h1.symm.trans q))), if_neg e, fX11_changes_57]
    obtain ⟨h', f1, f2, f3⟩ := M_hist1_lp fuel 0 σ n (by omega) (by unfold fuel; omega) h1 (by omega)
    refine ⟨h', f1, fun i k hi hk => ?_, fun k hk => ?_⟩
    · rw [if_neg e, f3 _ (by
        have : i + 1 ≤ n := by omega
        have : 206 * (i + 1) ≤ 206 * n := Nat.mul_le_mul_left _ this
        omega)]
    · rw [show n + 1 - 1 = n by omega, f2 k hk, if_neg (by omega)]
