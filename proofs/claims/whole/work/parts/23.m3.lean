/-! MATH 3: the reference's row keeps its shape under single writes -/
theorem IG_free {g : T1} {ns nb nr nv i : Nat} {v : Int32} (hI : IG g ns nb nr nv) (f0 : 4 < i) (f1 : ∀ k, k < 6 → i ≠ 8 + 4 * k + 1 ∧ (ns ≤ k → i ≠ 8 + 4 * k + 2 ∧ i ≠ 8 + 4 * k + 3)) (f2 : ∀ k, k < 16 → i ≠ 32 + 6 * k ∧ i ≠ 32 + 6 * k + 1 ∧ i ≠ 32 + 6 * k + 3 ∧ (nb ≤ k → i ≠ 32 + 6 * k + 2 ∧ i ≠ 32 + 6 * k + 4 ∧ i ≠ 32 + 6 * k + 5)) (f3 : ∀ k, k < 8 → i ≠ 128 + 9 * k + 2 ∧ (nr ≤ k → i < 128 + 9 * k ∨ 128 + 9 * k + 8 < i)) (f4 : ∀ k, k < 2 → i ≠ 200 + 3 * k ∧ i ≠ 200 + 3 * k + 1 ∧ (nv ≤ k → i ≠ 200 + 3 * k + 2)) : IG (sU g i v) ns nb nr nv := by
  obtain ⟨⟨h0, h1, h2, h3, hs6, hb16, hr8, hv2⟩, ⟨tm, h4, ht⟩, hdk, hbc, hrd, hvn, hzS, hzB, hzR, hzV⟩ := hI
  refine ⟨⟨(by (try simp (disch := omega) only [sU_n, sU_s]); exact h0), (by (try simp (disch := omega) only [sU_n, sU_s]); exact h1), (by (try simp (disch := omega) only [sU_n, sU_s]); exact h2), (by (try simp (disch := omega) only [sU_n, sU_s]); exact h3), hs6, hb16, hr8, hv2⟩, ⟨tm, (by (try simp (disch := omega) only [sU_n, sU_s]); exact h4), ht⟩, (fun k hk => by
    rw [cw_congr (g' := sU g i v) (g := g) nb (fun j hj => by have := f2 j (by omega); constructor <;> simp (disch := omega) only [sU_n, sU_s])]
    have := f1 k (by omega)
    simp (disch := omega) only [sU_n, sU_s]
    exact hdk k hk), (fun k hk => by have := f2 k (by omega); simp (disch := omega) only [sU_n, sU_s]; exact hbc k hk), (fun k hk => by have := f3 k (by omega); simp (disch := omega) only [sU_n, sU_s]; exact hrd k hk), (fun k hk => by
    rw [cw_congr (g' := sU g i v) (g := g) nb (fun j hj => by have := f2 j (by omega); constructor <;> simp (disch := omega) only [sU_n, sU_s])]
    have := f4 k (by omega)
    simp (disch := omega) only [sU_n, sU_s]
    exact hvn k hk), (fun k hk hk2 => by have := (f1 k hk2).2 hk; simp (disch := omega) only [sU_n, sU_s]; exact hzS k hk hk2), (fun k hk hk2 => by have := f2 k hk2; have := (f2 k hk2).2.2.2 hk; simp (disch := omega) only [sU_n, sU_s]; exact hzB k hk hk2), (fun k hk hk2 => by have := (f3 k hk2).2 hk; simp (disch := omega) only [sU_n, sU_s]; exact hzR k hk hk2), (fun k hk hk2 => by have := (f4 k hk2).2.2 hk; simp (disch := omega) only [sU_n, sU_s]; exact hzV k hk hk2)⟩
theorem IG_time {g : T1} {ns nb nr nv t : Nat} (hI : IG g ns nb nr nv) (h : t ≤ 9000) : IG (sU g 4 (nI t)) ns nb nr nv := by
  obtain ⟨⟨h0, h1, h2, h3, hs6, hb16, hr8, hv2⟩, ⟨tm, h4, ht⟩, hdk, hbc, hrd, hvn, hzS, hzB, hzR, hzV⟩ := hI
  refine ⟨⟨(by (try simp (disch := omega) only [sU_n, sU_s]); exact h0), (by (try simp (disch := omega) only [sU_n, sU_s]); exact h1), (by (try simp (disch := omega) only [sU_n, sU_s]); exact h2), (by (try simp (disch := omega) only [sU_n, sU_s]); exact h3), hs6, hb16, hr8, hv2⟩, ⟨t, sU_s, h⟩, (fun k hk => by
    rw [cw_congr (g' := (sU g 4 (nI t))) (g := g) nb (fun j hj => by constructor <;> (try simp (disch := omega) only [sU_n, sU_s]))]
    (try simp (disch := omega) only [sU_n, sU_s])
    exact hdk k hk), (fun k hk => by (try simp (disch := omega) only [sU_n, sU_s]); exact hbc k hk), (fun k hk => by (try simp (disch := omega) only [sU_n, sU_s]); exact hrd k hk), (fun k hk => by
    rw [cw_congr (g' := (sU g 4 (nI t))) (g := g) nb (fun j hj => by constructor <;> (try simp (disch := omega) only [sU_n, sU_s]))]
    (try simp (disch := omega) only [sU_n, sU_s])
    exact hvn k hk), (fun k hk hk2 => by (try simp (disch := omega) only [sU_n, sU_s]); exact hzS k hk hk2), (fun k hk hk2 => by (try simp (disch := omega) only [sU_n, sU_s]); exact hzB k hk hk2), (fun k hk hk2 => by (try simp (disch := omega) only [sU_n, sU_s]); exact hzR k hk hk2), (fun k hk hk2 => by (try simp (disch := omega) only [sU_n, sU_s]); exact hzV k hk hk2)⟩
theorem IG_faulty {g : T1} {ns nb nr nv b : Nat} {v : Int32} (hI : IG g ns nb nr nv) (hb : b < nb) (h : v = 0 ∨ v = 1) : IG (sU g (32 + 6 * b + 3) v) ns nb nr nv := by
  obtain ⟨⟨h0, h1, h2, h3, hs6, hb16, hr8, hv2⟩, ⟨tm, h4, ht⟩, hdk, hbc, hrd, hvn, hzS, hzB, hzR, hzV⟩ := hI
  refine ⟨⟨(by (try simp (disch := omega) only [sU_n, sU_s]); exact h0), (by (try simp (disch := omega) only [sU_n, sU_s]); exact h1), (by (try simp (disch := omega) only [sU_n, sU_s]); exact h2), (by (try simp (disch := omega) only [sU_n, sU_s]); exact h3), hs6, hb16, hr8, hv2⟩, ⟨tm, (by (try simp (disch := omega) only [sU_n, sU_s]); exact h4), ht⟩, (fun k hk => by
    rw [cw_congr (g' := (sU g (32 + 6 * b + 3) v)) (g := g) nb (fun j hj => by constructor <;> (try simp (disch := omega) only [sU_n, sU_s]))]
    (try simp (disch := omega) only [sU_n, sU_s])
    exact hdk k hk), (fun k hk => by
    by_cases e : k = b
    · subst e
      simp (disch := omega) only [sU_n, sU_s]
      exact ⟨(hbc k hk).1, h⟩
    · simp (disch := omega) only [sU_n, sU_s]
      exact hbc k hk), (fun k hk => by (try simp (disch := omega) only [sU_n, sU_s]); exact hrd k hk), (fun k hk => by
    rw [cw_congr (g' := (sU g (32 + 6 * b + 3) v)) (g := g) nb (fun j hj => by constructor <;> (try simp (disch := omega) only [sU_n, sU_s]))]
    (try simp (disch := omega) only [sU_n, sU_s])
    exact hvn k hk), (fun k hk hk2 => by (try simp (disch := omega) only [sU_n, sU_s]); exact hzS k hk hk2), (fun k hk hk2 => by (try simp (disch := omega) only [sU_n, sU_s]); exact hzB k hk hk2), (fun k hk hk2 => by (try simp (disch := omega) only [sU_n, sU_s]); exact hzR k hk hk2), (fun k hk hk2 => by (try simp (disch := omega) only [sU_n, sU_s]); exact hzV k hk hk2)⟩
theorem IG_ride {g : T1} {ns nb nr nv b : Nat} {v : Int32} (hI : IG g ns nb nr nv) (hb : b < nr) (h : v = -4 ∨ ∃ j, j < nb ∧ v = nI j) : IG (sU g (128 + 9 * b + 2) v) ns nb nr nv := by
  obtain ⟨⟨h0, h1, h2, h3, hs6, hb16, hr8, hv2⟩, ⟨tm, h4, ht⟩, hdk, hbc, hrd, hvn, hzS, hzB, hzR, hzV⟩ := hI
  refine ⟨⟨(by (try simp (disch := omega) only [sU_n, sU_s]); exact h0), (by (try simp (disch := omega) only [sU_n, sU_s]); exact h1), (by (try simp (disch := omega) only [sU_n, sU_s]); exact h2), (by (try simp (disch := omega) only [sU_n, sU_s]); exact h3), hs6, hb16, hr8, hv2⟩, ⟨tm, (by (try simp (disch := omega) only [sU_n, sU_s]); exact h4), ht⟩, (fun k hk => by
    rw [cw_congr (g' := (sU g (128 + 9 * b + 2) v)) (g := g) nb (fun j hj => by constructor <;> (try simp (disch := omega) only [sU_n, sU_s]))]
    (try simp (disch := omega) only [sU_n, sU_s])
    exact hdk k hk), (fun k hk => by (try simp (disch := omega) only [sU_n, sU_s]); exact hbc k hk), (fun k hk => by
    by_cases e : k = b
    · subst e
      simp (disch := omega) only [sU_n, sU_s]
      exact h
    · simp (disch := omega) only [sU_n, sU_s]
      exact hrd k hk), (fun k hk => by
    rw [cw_congr (g' := (sU g (128 + 9 * b + 2) v)) (g := g) nb (fun j hj => by constructor <;> (try simp (disch := omega) only [sU_n, sU_s]))]
    (try simp (disch := omega) only [sU_n, sU_s])
    exact hvn k hk), (fun k hk hk2 => by (try simp (disch := omega) only [sU_n, sU_s]); exact hzS k hk hk2), (fun k hk hk2 => by (try simp (disch := omega) only [sU_n, sU_s]); exact hzB k hk hk2), (fun k hk hk2 => by (try simp (disch := omega) only [sU_n, sU_s]); exact hzR k hk hk2), (fun k hk hk2 => by (try simp (disch := omega) only [sU_n, sU_s]); exact hzV k hk hk2)⟩
theorem IG_vat {g : T1} {ns nb nr nv b j : Nat} (hI : IG g ns nb nr nv) (hb : b < nv) (h : j < ns) : IG (sU g (200 + 3 * b) (nI j)) ns nb nr nv := by
  obtain ⟨⟨h0, h1, h2, h3, hs6, hb16, hr8, hv2⟩, ⟨tm, h4, ht⟩, hdk, hbc, hrd, hvn, hzS, hzB, hzR, hzV⟩ := hI
  refine ⟨⟨(by (try simp (disch := omega) only [sU_n, sU_s]); exact h0), (by (try simp (disch := omega) only [sU_n, sU_s]); exact h1), (by (try simp (disch := omega) only [sU_n, sU_s]); exact h2), (by (try simp (disch := omega) only [sU_n, sU_s]); exact h3), hs6, hb16, hr8, hv2⟩, ⟨tm, (by (try simp (disch := omega) only [sU_n, sU_s]); exact h4), ht⟩, (fun k hk => by
    rw [cw_congr (g' := (sU g (200 + 3 * b) (nI j))) (g := g) nb (fun j hj => by constructor <;> (try simp (disch := omega) only [sU_n, sU_s]))]
    (try simp (disch := omega) only [sU_n, sU_s])
    exact hdk k hk), (fun k hk => by (try simp (disch := omega) only [sU_n, sU_s]); exact hbc k hk), (fun k hk => by (try simp (disch := omega) only [sU_n, sU_s]); exact hrd k hk), (fun k hk => by
    rw [cw_congr (g' := sU g (200 + 3 * b) (nI j)) (g := g) nb (fun j hj => by constructor <;> simp (disch := omega) only [sU_n, sU_s])]
    by_cases e : k = b
    · subst e
      simp (disch := omega) only [sU_n, sU_s]
      exact ⟨⟨j, h, rfl⟩, (hvn k hk).2⟩
    · simp (disch := omega) only [sU_n, sU_s]
      exact hvn k hk), (fun k hk hk2 => by (try simp (disch := omega) only [sU_n, sU_s]); exact hzS k hk hk2), (fun k hk hk2 => by (try simp (disch := omega) only [sU_n, sU_s]); exact hzB k hk hk2), (fun k hk hk2 => by (try simp (disch := omega) only [sU_n, sU_s]); exact hzR k hk hk2), (fun k hk hk2 => by (try simp (disch := omega) only [sU_n, sU_s]); exact hzV k hk hk2)⟩
theorem IG_puts {g : T1} {ns nb nr nv b : Nat} {st wh : Int32} (hI : IG g ns nb nr nv) (hb : b < nb) (h : (st = 0 ∧ ∃ j, j < ns ∧ wh = nI j ∧ ∃ d, g (8 + 4 * j + 1) = nI d ∧ cw g 0 (nI j) nb < d ∧ d ≤ 8) ∨ (st = 1 ∧ ∃ j, j < nr ∧ wh = nI j) ∨ (st = 2 ∧ ∃ j, j < nv ∧ wh = nI j ∧ ∃ d, g (200 + 3 * j + 1) = nI d ∧ cw g 2 (nI j) nb < d ∧ d ≤ 6) ∨ (st = 3 ∧ wh = -4)) : IG (sU (sU g (32 + 6 * b) st) (32 + 6 * b + 1) wh) ns nb nr nv := by
  obtain ⟨⟨h0, h1, h2, h3, hs6, hb16, hr8, hv2⟩, ⟨tm, h4, ht⟩, hdk, hbc, hrd, hvn, hzS, hzB, hzR, hzV⟩ := hI
  refine ⟨⟨(by (try simp (disch := omega) only [sU_n, sU_s]); exact h0), (by (try simp (disch := omega) only [sU_n, sU_s]); exact h1), (by (try simp (disch := omega) only [sU_n, sU_s]); exact h2), (by (try simp (disch := omega) only [sU_n, sU_s]); exact h3), hs6, hb16, hr8, hv2⟩, ⟨tm, (by (try simp (disch := omega) only [sU_n, sU_s]); exact h4), ht⟩, (fun k hk => by
    have q := cw_put_le (g := g) (g' := (sU (sU g (32 + 6 * b) st) (32 + 6 * b + 1) wh)) (st := 0) (wh := nI k) (b := b) (n := nb) hb (fun j hj hne => by constructor <;> simp (disch := omega) only [sU_n, sU_s])
    simp (disch := omega) only [sU_n, sU_s] at q ⊢
    obtain ⟨d, h5, h6, h7, h8⟩ := hdk k hk
    refine ⟨d, h5, h6, h7, ?_⟩
    by_cases c : st = 0 ∧ wh = nI k
    · rw [if_pos c] at q
      rcases h with ⟨-, j, hj, q2, d2, q3, q4, q5⟩ | ⟨q2, -⟩ | ⟨q2, -⟩ | ⟨q2, -⟩
      · have ejk : j = k := (nI_eq (by omega) (by omega)).mp (q2.symm.trans c.2)
        subst ejk
        have e2 := (nI_eq (by omega) (by omega)).mp (h5.symm.trans q3)
        omega
      · rw [c.1] at q2; exact absurd q2 (by decide)
      · rw [c.1] at q2; exact absurd q2 (by decide)
      · rw [c.1] at q2; exact absurd q2 (by decide)
    · rw [if_neg c] at q
      omega), (fun k hk => by
    by_cases e : k = b
    · subst e
      simp (disch := omega) only [sU_n, sU_s]
      refine ⟨?_, (hbc k hk).2⟩
      rcases h with ⟨q, j, hj, q2, -⟩ | q | ⟨q, j, hj, q2, -⟩ | q
      · exact Or.inl ⟨q, j, hj, q2⟩
      · exact Or.inr (Or.inl q)
      · exact Or.inr (Or.inr (Or.inl ⟨q, j, hj, q2⟩))
      · exact Or.inr (Or.inr (Or.inr q))
    · simp (disch := omega) only [sU_n, sU_s]
      exact hbc k hk), (fun k hk => by (try simp (disch := omega) only [sU_n, sU_s]); exact hrd k hk), (fun k hk => by
    have q := cw_put_le (g := g) (g' := (sU (sU g (32 + 6 * b) st) (32 + 6 * b + 1) wh)) (st := 2) (wh := nI k) (b := b) (n := nb) hb (fun j hj hne => by constructor <;> simp (disch := omega) only [sU_n, sU_s])
    simp (disch := omega) only [sU_n, sU_s] at q ⊢
    obtain ⟨h9, d, h5, h7, h8⟩ := hvn k hk
    refine ⟨h9, d, h5, h7, ?_⟩
    by_cases c : st = 2 ∧ wh = nI k
    · rw [if_pos c] at q
      rcases h with ⟨q2, -⟩ | ⟨q2, -⟩ | ⟨-, j, hj, q2, d2, q3, q4, q5⟩ | ⟨q2, -⟩
      · rw [c.1] at q2; exact absurd q2 (by decide)
      · rw [c.1] at q2; exact absurd q2 (by decide)
      · have ejk : j = k := (nI_eq (by omega) (by omega)).mp (q2.symm.trans c.2)
        subst ejk
        have e2 := (nI_eq (by omega) (by omega)).mp (h5.symm.trans q3)
        omega
      · rw [c.1] at q2; exact absurd q2 (by decide)
    · rw [if_neg c] at q
      omega), (fun k hk hk2 => by (try simp (disch := omega) only [sU_n, sU_s]); exact hzS k hk hk2), (fun k hk hk2 => by (try simp (disch := omega) only [sU_n, sU_s]); exact hzB k hk hk2), (fun k hk hk2 => by (try simp (disch := omega) only [sU_n, sU_s]); exact hzR k hk hk2), (fun k hk hk2 => by (try simp (disch := omega) only [sU_n, sU_s]); exact hzV k hk hk2)⟩
