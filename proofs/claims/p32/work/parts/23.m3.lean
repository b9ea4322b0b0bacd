/-! MATH 3: the reference's row keeps its shape under single writes -/
theorem IG_free {g : T1} {ns nb nr nv i : Nat} {v : Int32} (hI : IG g ns nb nr nv) (f0 : 7 < i) (f1 : ∀ k, k < 6 → i ≠ 8 + 4 * k ∧ i ≠ 8 + 4 * k + 1 ∧ (ns ≤ k → i ≠ 8 + 4 * k + 2 ∧ i ≠ 8 + 4 * k + 3)) (f2 : ∀ k, k < 16 → i ≠ 32 + 6 * k ∧ i ≠ 32 + 6 * k + 1 ∧ i ≠ 32 + 6 * k + 3 ∧ (nb ≤ k → i ≠ 32 + 6 * k + 2 ∧ i ≠ 32 + 6 * k + 4 ∧ i ≠ 32 + 6 * k + 5)) (f3 : ∀ k, k < 8 → i ≠ 128 + 9 * k + 1 ∧ i ≠ 128 + 9 * k + 2 ∧ i ≠ 128 + 9 * k + 3 ∧ i ≠ 128 + 9 * k + 4 ∧ i ≠ 128 + 9 * k + 5 ∧ i ≠ 128 + 9 * k + 6 ∧ (nr ≤ k → i < 128 + 9 * k ∨ 128 + 9 * k + 8 < i)) (f4 : ∀ k, k < 2 → i ≠ 200 + 3 * k ∧ i ≠ 200 + 3 * k + 1 ∧ i ≠ 200 + 3 * k + 2) : IG (sU g i v) ns nb nr nv := by
  obtain ⟨⟨h0, h1, h2, h3, hs6, hb16, hr8, hv2⟩, ⟨tm, h4, ht⟩, ⟨⟨t5, h5, ht5⟩, ⟨t6, h6, ht6, ht6b⟩, ⟨t7, h7, ht7⟩⟩, hpl, hdk, hbc, hrd, hvn, hzS, hzB, hzR, hzV⟩ := hI
  refine ⟨⟨(by (try simp (disch := omega) only [sU_n, sU_s]); exact h0), (by (try simp (disch := omega) only [sU_n, sU_s]); exact h1), (by (try simp (disch := omega) only [sU_n, sU_s]); exact h2), (by (try simp (disch := omega) only [sU_n, sU_s]); exact h3), hs6, hb16, hr8, hv2⟩, ⟨tm, (by (try simp (disch := omega) only [sU_n, sU_s]); exact h4), ht⟩, ⟨⟨t5, (by (try simp (disch := omega) only [sU_n, sU_s]); exact h5), ht5⟩, ⟨t6, (by (try simp (disch := omega) only [sU_n, sU_s]); exact h6), ht6, ht6b⟩, ⟨t7, (by (try simp (disch := omega) only [sU_n, sU_s]); exact h7), ht7⟩⟩, (fun k hk => by have := f1 k (by omega); simp (disch := omega) only [sU_n, sU_s]; exact hpl k hk), (fun k hk => by
    rw [cw_congr (g' := sU g i v) (g := g) nb (fun j hj => by have := f2 j (by omega); constructor <;> simp (disch := omega) only [sU_n, sU_s])]
    have := f1 k (by omega)
    simp (disch := omega) only [sU_n, sU_s]
    exact hdk k hk), (fun k hk => by have := f2 k (by omega); simp (disch := omega) only [sU_n, sU_s]; exact hbc k hk), (fun k hk => by
    have := f3 k (by omega)
    have q := hrd k hk
    unfold RD at q ⊢
    simp (disch := omega) only [sU_n, sU_s]
    exact q), (fun k hk => by
    rw [cw_congr (g' := sU g i v) (g := g) nb (fun j hj => by have := f2 j (by omega); constructor <;> simp (disch := omega) only [sU_n, sU_s])]
    have := f4 k (by omega)
    simp (disch := omega) only [sU_n, sU_s]
    exact hvn k hk), (fun k hk hk2 => by have := (f1 k hk2).2.2 hk; simp (disch := omega) only [sU_n, sU_s]; exact hzS k hk hk2), (fun k hk hk2 => by have := f2 k hk2; have := (f2 k hk2).2.2.2 hk; simp (disch := omega) only [sU_n, sU_s]; exact hzB k hk hk2), (fun k hk hk2 => by have := (f3 k hk2).2.2.2.2.2.2 hk; simp (disch := omega) only [sU_n, sU_s]; exact hzR k hk hk2), (fun k hk => by have := (f4 k hk).2.2; simp (disch := omega) only [sU_n, sU_s]; exact hzV k hk)⟩
theorem IG_time {g : T1} {ns nb nr nv t : Nat} (hI : IG g ns nb nr nv) (h : t ≤ 9000) : IG (sU g 4 (nI t)) ns nb nr nv := by
  obtain ⟨⟨h0, h1, h2, h3, hs6, hb16, hr8, hv2⟩, ⟨tm, h4, ht⟩, ⟨⟨t5, h5, ht5⟩, ⟨t6, h6, ht6, ht6b⟩, ⟨t7, h7, ht7⟩⟩, hpl, hdk, hbc, hrd, hvn, hzS, hzB, hzR, hzV⟩ := hI
  refine ⟨⟨(by (try simp (disch := omega) only [sU_n, sU_s]); exact h0), (by (try simp (disch := omega) only [sU_n, sU_s]); exact h1), (by (try simp (disch := omega) only [sU_n, sU_s]); exact h2), (by (try simp (disch := omega) only [sU_n, sU_s]); exact h3), hs6, hb16, hr8, hv2⟩, ⟨t, sU_s, h⟩, ⟨⟨t5, (by (try simp (disch := omega) only [sU_n, sU_s]); exact h5), ht5⟩, ⟨t6, (by (try simp (disch := omega) only [sU_n, sU_s]); exact h6), ht6, ht6b⟩, ⟨t7, (by (try simp (disch := omega) only [sU_n, sU_s]); exact h7), ht7⟩⟩, (fun k9 hk9 => by (try simp (disch := omega) only [sU_n, sU_s]); exact hpl k9 hk9), (fun k9 hk9 => by
    rw [cw_congr (g' := (sU g 4 (nI t))) (g := g) nb (fun j hj => by constructor <;> (try simp (disch := omega) only [sU_n, sU_s]))]
    (try simp (disch := omega) only [sU_n, sU_s])
    exact hdk k9 hk9), (fun k9 hk9 => by (try simp (disch := omega) only [sU_n, sU_s]); exact hbc k9 hk9), (fun k9 hk9 => RD_congr (fun w hw => by (try simp (disch := omega) only [sU_n, sU_s])) (hrd k9 hk9)), (fun k9 hk9 => by
    rw [cw_congr (g' := (sU g 4 (nI t))) (g := g) nb (fun j hj => by constructor <;> (try simp (disch := omega) only [sU_n, sU_s]))]
    (try simp (disch := omega) only [sU_n, sU_s])
    exact hvn k9 hk9), (fun k9 hk9 hk92 => by (try simp (disch := omega) only [sU_n, sU_s]); exact hzS k9 hk9 hk92), (fun k9 hk9 hk92 => by (try simp (disch := omega) only [sU_n, sU_s]); exact hzB k9 hk9 hk92), (fun k9 hk9 hk92 => by (try simp (disch := omega) only [sU_n, sU_s]); exact hzR k9 hk9 hk92), (fun k9 hk9 => by (try simp (disch := omega) only [sU_n, sU_s]); exact hzV k9 hk9)⟩
theorem IG_faulty {g : T1} {ns nb nr nv b : Nat} {v : Int32} (hI : IG g ns nb nr nv) (hb : b < nb) (h : v = 0 ∨ v = 1) : IG (sU g (32 + 6 * b + 3) v) ns nb nr nv := by
  obtain ⟨⟨h0, h1, h2, h3, hs6, hb16, hr8, hv2⟩, ⟨tm, h4, ht⟩, ⟨⟨t5, h5, ht5⟩, ⟨t6, h6, ht6, ht6b⟩, ⟨t7, h7, ht7⟩⟩, hpl, hdk, hbc, hrd, hvn, hzS, hzB, hzR, hzV⟩ := hI
  refine ⟨⟨(by (try simp (disch := omega) only [sU_n, sU_s]); exact h0), (by (try simp (disch := omega) only [sU_n, sU_s]); exact h1), (by (try simp (disch := omega) only [sU_n, sU_s]); exact h2), (by (try simp (disch := omega) only [sU_n, sU_s]); exact h3), hs6, hb16, hr8, hv2⟩, ⟨tm, (by (try simp (disch := omega) only [sU_n, sU_s]); exact h4), ht⟩, ⟨⟨t5, (by (try simp (disch := omega) only [sU_n, sU_s]); exact h5), ht5⟩, ⟨t6, (by (try simp (disch := omega) only [sU_n, sU_s]); exact h6), ht6, ht6b⟩, ⟨t7, (by (try simp (disch := omega) only [sU_n, sU_s]); exact h7), ht7⟩⟩, (fun k9 hk9 => by (try simp (disch := omega) only [sU_n, sU_s]); exact hpl k9 hk9), (fun k9 hk9 => by
    rw [cw_congr (g' := (sU g (32 + 6 * b + 3) v)) (g := g) nb (fun j hj => by constructor <;> (try simp (disch := omega) only [sU_n, sU_s]))]
    (try simp (disch := omega) only [sU_n, sU_s])
    exact hdk k9 hk9), (fun k hk => by
    by_cases e : k = b
    · subst e
      simp (disch := omega) only [sU_n, sU_s]
      exact ⟨(hbc k hk).1, h⟩
    · simp (disch := omega) only [sU_n, sU_s]
      exact hbc k hk), (fun k9 hk9 => RD_congr (fun w hw => by (try simp (disch := omega) only [sU_n, sU_s])) (hrd k9 hk9)), (fun k9 hk9 => by
    rw [cw_congr (g' := (sU g (32 + 6 * b + 3) v)) (g := g) nb (fun j hj => by constructor <;> (try simp (disch := omega) only [sU_n, sU_s]))]
    (try simp (disch := omega) only [sU_n, sU_s])
    exact hvn k9 hk9), (fun k9 hk9 hk92 => by (try simp (disch := omega) only [sU_n, sU_s]); exact hzS k9 hk9 hk92), (fun k9 hk9 hk92 => by (try simp (disch := omega) only [sU_n, sU_s]); exact hzB k9 hk9 hk92), (fun k9 hk9 hk92 => by (try simp (disch := omega) only [sU_n, sU_s]); exact hzR k9 hk9 hk92), (fun k9 hk9 => by (try simp (disch := omega) only [sU_n, sU_s]); exact hzV k9 hk9)⟩
theorem IG_rid {g g' : T1} {ns nb nr nv b : Nat} (hI : IG g ns nb nr nv) (hb : b < nr) (ho : ∀ i, i < 128 + 9 * b ∨ 128 + 9 * b + 8 < i → g' i = g i) (h : RD g' nb b) : IG g' ns nb nr nv := by
  obtain ⟨⟨h0, h1, h2, h3, hs6, hb16, hr8, hv2⟩, ⟨tm, h4, ht⟩, ⟨⟨t5, h5, ht5⟩, ⟨t6, h6, ht6, ht6b⟩, ⟨t7, h7, ht7⟩⟩, hpl, hdk, hbc, hrd, hvn, hzS, hzB, hzR, hzV⟩ := hI
  have cwe : ∀ st wh, cw g' st wh nb = cw g st wh nb := fun st wh => cw_congr nb (fun j hj => ⟨ho _ (by omega), ho _ (by omega)⟩)
  have H := ho
  refine ⟨⟨by rw [ho _ (by omega)]; exact h0, by rw [ho _ (by omega)]; exact h1, by rw [ho _ (by omega)]; exact h2, by rw [ho _ (by omega)]; exact h3, hs6, hb16, hr8, hv2⟩, ⟨tm, by rw [ho _ (by omega)]; exact h4, ht⟩, ⟨⟨t5, by rw [ho _ (by omega)]; exact h5, ht5⟩, ⟨t6, by rw [ho _ (by omega)]; exact h6, ht6, ht6b⟩, ⟨t7, by rw [ho _ (by omega)]; exact h7, ht7⟩⟩, ?_, ?_, ?_, ?_, ?_, ?_, ?_, ?_, ?_⟩
  · intro k hk; rw [ho _ (by omega)]; exact hpl k hk
  · intro k hk; rw [ho _ (by omega), cwe]; exact hdk k hk
  · intro k hk; rw [ho (32 + 6 * k) (by omega), ho (32 + 6 * k + 1) (by omega), ho (32 + 6 * k + 3) (by omega)]; exact hbc k hk
  · intro k hk
    by_cases e : k = b
    · subst e; exact h
    · exact RD_congr (fun w hw => ho _ (by omega)) (hrd k hk)
  · intro k hk; rw [ho (200 + 3 * k) (by omega), ho (200 + 3 * k + 1) (by omega), cwe]; exact hvn k hk
  · intro k hk hk2; rw [ho (8 + 4 * k + 2) (by omega), ho (8 + 4 * k + 3) (by omega)]; exact hzS k hk hk2
  · intro k hk hk2; rw [ho (32 + 6 * k) (by omega), ho (32 + 6 * k + 1) (by omega), ho (32 + 6 * k + 2) (by omega), ho (32 + 6 * k + 3) (by omega), ho (32 + 6 * k + 4) (by omega), ho (32 + 6 * k + 5) (by omega)]; exact hzB k hk hk2
  · intro k hk hk2; rw [ho (128 + 9 * k) (by omega), ho (128 + 9 * k + 1) (by omega), ho (128 + 9 * k + 2) (by omega), ho (128 + 9 * k + 3) (by omega), ho (128 + 9 * k + 4) (by omega), ho (128 + 9 * k + 5) (by omega), ho (128 + 9 * k + 6) (by omega), ho (128 + 9 * k + 7) (by omega), ho (128 + 9 * k + 8) (by omega)]; exact hzR k hk hk2
  · intro k hk; rw [ho (200 + 3 * k + 2) (by omega)]; exact hzV k hk
theorem IG_sett {g : T1} {ns nb nr nv i a : Nat} (hI : IG g ns nb nr nv) (h : (i = 5 ∧ a ≤ 99) ∨ (i = 6 ∧ 1 ≤ a ∧ a ≤ 999) ∨ (i = 7 ∧ a ≤ 999)) : IG (sU g i (nI a)) ns nb nr nv := by
  obtain ⟨⟨h0, h1, h2, h3, hs6, hb16, hr8, hv2⟩, ⟨tm, h4, ht⟩, ⟨⟨t5, h5, ht5⟩, ⟨t6, h6, ht6, ht6b⟩, ⟨t7, h7, ht7⟩⟩, hpl, hdk, hbc, hrd, hvn, hzS, hzB, hzR, hzV⟩ := hI
  rcases h with ⟨rfl, ha⟩ | ⟨rfl, ha, ha2⟩ | ⟨rfl, ha⟩
  · refine ⟨⟨(by (try simp (disch := omega) only [sU_n, sU_s]); exact h0), (by (try simp (disch := omega) only [sU_n, sU_s]); exact h1), (by (try simp (disch := omega) only [sU_n, sU_s]); exact h2), (by (try simp (disch := omega) only [sU_n, sU_s]); exact h3), hs6, hb16, hr8, hv2⟩, ⟨tm, (by (try simp (disch := omega) only [sU_n, sU_s]); exact h4), ht⟩, ⟨⟨a, sU_s, ha⟩, ⟨t6, (by simp (disch := omega) only [sU_n, sU_s]; exact h6), ht6, ht6b⟩, ⟨t7, (by simp (disch := omega) only [sU_n, sU_s]; exact h7), ht7⟩⟩, (fun k9 hk9 => by (try simp (disch := omega) only [sU_n, sU_s]); exact hpl k9 hk9), (fun k9 hk9 => by
    rw [cw_congr (g' := (sU g 5 (nI a))) (g := g) nb (fun j hj => by constructor <;> (try simp (disch := omega) only [sU_n, sU_s]))]
    (try simp (disch := omega) only [sU_n, sU_s])
    exact hdk k9 hk9), (fun k9 hk9 => by (try simp (disch := omega) only [sU_n, sU_s]); exact hbc k9 hk9), (fun k9 hk9 => RD_congr (fun w hw => by (try simp (disch := omega) only [sU_n, sU_s])) (hrd k9 hk9)), (fun k9 hk9 => by
    rw [cw_congr (g' := (sU g 5 (nI a))) (g := g) nb (fun j hj => by constructor <;> (try simp (disch := omega) only [sU_n, sU_s]))]
    (try simp (disch := omega) only [sU_n, sU_s])
    exact hvn k9 hk9), (fun k9 hk9 hk92 => by (try simp (disch := omega) only [sU_n, sU_s]); exact hzS k9 hk9 hk92), (fun k9 hk9 hk92 => by (try simp (disch := omega) only [sU_n, sU_s]); exact hzB k9 hk9 hk92), (fun k9 hk9 hk92 => by (try simp (disch := omega) only [sU_n, sU_s]); exact hzR k9 hk9 hk92), (fun k9 hk9 => by (try simp (disch := omega) only [sU_n, sU_s]); exact hzV k9 hk9)⟩
  · refine ⟨⟨(by (try simp (disch := omega) only [sU_n, sU_s]); exact h0), (by (try simp (disch := omega) only [sU_n, sU_s]); exact h1), (by (try simp (disch := omega) only [sU_n, sU_s]); exact h2), (by (try simp (disch := omega) only [sU_n, sU_s]); exact h3), hs6, hb16, hr8, hv2⟩, ⟨tm, (by (try simp (disch := omega) only [sU_n, sU_s]); exact h4), ht⟩, ⟨⟨t5, (by simp (disch := omega) only [sU_n, sU_s]; exact h5), ht5⟩, ⟨a, sU_s, ha, ha2⟩, ⟨t7, (by simp (disch := omega) only [sU_n, sU_s]; exact h7), ht7⟩⟩, (fun k9 hk9 => by (try simp (disch := omega) only [sU_n, sU_s]); exact hpl k9 hk9), (fun k9 hk9 => by
    rw [cw_congr (g' := (sU g 6 (nI a))) (g := g) nb (fun j hj => by constructor <;> (try simp (disch := omega) only [sU_n, sU_s]))]
    (try simp (disch := omega) only [sU_n, sU_s])
    exact hdk k9 hk9), (fun k9 hk9 => by (try simp (disch := omega) only [sU_n, sU_s]); exact hbc k9 hk9), (fun k9 hk9 => RD_congr (fun w hw => by (try simp (disch := omega) only [sU_n, sU_s])) (hrd k9 hk9)), (fun k9 hk9 => by
    rw [cw_congr (g' := (sU g 6 (nI a))) (g := g) nb (fun j hj => by constructor <;> (try simp (disch := omega) only [sU_n, sU_s]))]
    (try simp (disch := omega) only [sU_n, sU_s])
    exact hvn k9 hk9), (fun k9 hk9 hk92 => by (try simp (disch := omega) only [sU_n, sU_s]); exact hzS k9 hk9 hk92), (fun k9 hk9 hk92 => by (try simp (disch := omega) only [sU_n, sU_s]); exact hzB k9 hk9 hk92), (fun k9 hk9 hk92 => by (try simp (disch := omega) only [sU_n, sU_s]); exact hzR k9 hk9 hk92), (fun k9 hk9 => by (try simp (disch := omega) only [sU_n, sU_s]); exact hzV k9 hk9)⟩
  · refine ⟨⟨(by (try simp (disch := omega) only [sU_n, sU_s]); exact h0), (by (try simp (disch := omega) only [sU_n, sU_s]); exact h1), (by (try simp (disch := omega) only [sU_n, sU_s]); exact h2), (by (try simp (disch := omega) only [sU_n, sU_s]); exact h3), hs6, hb16, hr8, hv2⟩, ⟨tm, (by (try simp (disch := omega) only [sU_n, sU_s]); exact h4), ht⟩, ⟨⟨t5, (by simp (disch := omega) only [sU_n, sU_s]; exact h5), ht5⟩, ⟨t6, (by simp (disch := omega) only [sU_n, sU_s]; exact h6), ht6, ht6b⟩, ⟨a, sU_s, ha⟩⟩, (fun k9 hk9 => by (try simp (disch := omega) only [sU_n, sU_s]); exact hpl k9 hk9), (fun k9 hk9 => by
    rw [cw_congr (g' := (sU g 7 (nI a))) (g := g) nb (fun j hj => by constructor <;> (try simp (disch := omega) only [sU_n, sU_s]))]
    (try simp (disch := omega) only [sU_n, sU_s])
    exact hdk k9 hk9), (fun k9 hk9 => by (try simp (disch := omega) only [sU_n, sU_s]); exact hbc k9 hk9), (fun k9 hk9 => RD_congr (fun w hw => by (try simp (disch := omega) only [sU_n, sU_s])) (hrd k9 hk9)), (fun k9 hk9 => by
    rw [cw_congr (g' := (sU g 7 (nI a))) (g := g) nb (fun j hj => by constructor <;> (try simp (disch := omega) only [sU_n, sU_s]))]
    (try simp (disch := omega) only [sU_n, sU_s])
    exact hvn k9 hk9), (fun k9 hk9 hk92 => by (try simp (disch := omega) only [sU_n, sU_s]); exact hzS k9 hk9 hk92), (fun k9 hk9 hk92 => by (try simp (disch := omega) only [sU_n, sU_s]); exact hzB k9 hk9 hk92), (fun k9 hk9 hk92 => by (try simp (disch := omega) only [sU_n, sU_s]); exact hzR k9 hk9 hk92), (fun k9 hk9 => by (try simp (disch := omega) only [sU_n, sU_s]); exact hzV k9 hk9)⟩
theorem IG_arr {g : T1} {ns nb nr nv b a : Nat} (hI : IG g ns nb nr nv) (hb : b < nv) (ha : a ≤ 20000) : IG (sU g (200 + 3 * b + 2) (nI a)) ns nb nr nv := by
  obtain ⟨⟨h0, h1, h2, h3, hs6, hb16, hr8, hv2⟩, ⟨tm, h4, ht⟩, ⟨⟨t5, h5, ht5⟩, ⟨t6, h6, ht6, ht6b⟩, ⟨t7, h7, ht7⟩⟩, hpl, hdk, hbc, hrd, hvn, hzS, hzB, hzR, hzV⟩ := hI
  refine ⟨⟨(by (try simp (disch := omega) only [sU_n, sU_s]); exact h0), (by (try simp (disch := omega) only [sU_n, sU_s]); exact h1), (by (try simp (disch := omega) only [sU_n, sU_s]); exact h2), (by (try simp (disch := omega) only [sU_n, sU_s]); exact h3), hs6, hb16, hr8, hv2⟩, ⟨tm, (by (try simp (disch := omega) only [sU_n, sU_s]); exact h4), ht⟩, ⟨⟨t5, (by (try simp (disch := omega) only [sU_n, sU_s]); exact h5), ht5⟩, ⟨t6, (by (try simp (disch := omega) only [sU_n, sU_s]); exact h6), ht6, ht6b⟩, ⟨t7, (by (try simp (disch := omega) only [sU_n, sU_s]); exact h7), ht7⟩⟩, (fun k9 hk9 => by (try simp (disch := omega) only [sU_n, sU_s]); exact hpl k9 hk9), (fun k9 hk9 => by
    rw [cw_congr (g' := (sU g (200 + 3 * b + 2) (nI a))) (g := g) nb (fun j hj => by constructor <;> (try simp (disch := omega) only [sU_n, sU_s]))]
    (try simp (disch := omega) only [sU_n, sU_s])
    exact hdk k9 hk9), (fun k9 hk9 => by (try simp (disch := omega) only [sU_n, sU_s]); exact hbc k9 hk9), (fun k9 hk9 => RD_congr (fun w hw => by (try simp (disch := omega) only [sU_n, sU_s])) (hrd k9 hk9)), (fun k9 hk9 => by
    rw [cw_congr (g' := (sU g (200 + 3 * b + 2) (nI a))) (g := g) nb (fun j hj => by constructor <;> (try simp (disch := omega) only [sU_n, sU_s]))]
    (try simp (disch := omega) only [sU_n, sU_s])
    exact hvn k9 hk9), (fun k9 hk9 hk92 => by (try simp (disch := omega) only [sU_n, sU_s]); exact hzS k9 hk9 hk92), (fun k9 hk9 hk92 => by (try simp (disch := omega) only [sU_n, sU_s]); exact hzB k9 hk9 hk92), (fun k9 hk9 hk92 => by (try simp (disch := omega) only [sU_n, sU_s]); exact hzR k9 hk9 hk92), (fun k hk => by
    by_cases e : k = b
    · subst e
      simp (disch := omega) only [sU_n, sU_s]
      exact ⟨fun q => absurd q (by omega), a, rfl, ha⟩
    · simp (disch := omega) only [sU_n, sU_s]
      exact hzV k hk)⟩
theorem IG_vat {g : T1} {ns nb nr nv b j : Nat} (hI : IG g ns nb nr nv) (hb : b < nv) (h : j < ns) : IG (sU g (200 + 3 * b) (nI j)) ns nb nr nv := by
  obtain ⟨⟨h0, h1, h2, h3, hs6, hb16, hr8, hv2⟩, ⟨tm, h4, ht⟩, ⟨⟨t5, h5, ht5⟩, ⟨t6, h6, ht6, ht6b⟩, ⟨t7, h7, ht7⟩⟩, hpl, hdk, hbc, hrd, hvn, hzS, hzB, hzR, hzV⟩ := hI
  refine ⟨⟨(by (try simp (disch := omega) only [sU_n, sU_s]); exact h0), (by (try simp (disch := omega) only [sU_n, sU_s]); exact h1), (by (try simp (disch := omega) only [sU_n, sU_s]); exact h2), (by (try simp (disch := omega) only [sU_n, sU_s]); exact h3), hs6, hb16, hr8, hv2⟩, ⟨tm, (by (try simp (disch := omega) only [sU_n, sU_s]); exact h4), ht⟩, ⟨⟨t5, (by (try simp (disch := omega) only [sU_n, sU_s]); exact h5), ht5⟩, ⟨t6, (by (try simp (disch := omega) only [sU_n, sU_s]); exact h6), ht6, ht6b⟩, ⟨t7, (by (try simp (disch := omega) only [sU_n, sU_s]); exact h7), ht7⟩⟩, (fun k9 hk9 => by (try simp (disch := omega) only [sU_n, sU_s]); exact hpl k9 hk9), (fun k9 hk9 => by
    rw [cw_congr (g' := (sU g (200 + 3 * b) (nI j))) (g := g) nb (fun j hj => by constructor <;> (try simp (disch := omega) only [sU_n, sU_s]))]
    (try simp (disch := omega) only [sU_n, sU_s])
    exact hdk k9 hk9), (fun k9 hk9 => by (try simp (disch := omega) only [sU_n, sU_s]); exact hbc k9 hk9), (fun k9 hk9 => RD_congr (fun w hw => by (try simp (disch := omega) only [sU_n, sU_s])) (hrd k9 hk9)), (fun k hk => by
    rw [cw_congr (g' := sU g (200 + 3 * b) (nI j)) (g := g) nb (fun j hj => by constructor <;> simp (disch := omega) only [sU_n, sU_s])]
    by_cases e : k = b
    · subst e
      simp (disch := omega) only [sU_n, sU_s]
      exact ⟨⟨j, h, rfl⟩, (hvn k hk).2⟩
    · simp (disch := omega) only [sU_n, sU_s]
      exact hvn k hk), (fun k9 hk9 hk92 => by (try simp (disch := omega) only [sU_n, sU_s]); exact hzS k9 hk9 hk92), (fun k9 hk9 hk92 => by (try simp (disch := omega) only [sU_n, sU_s]); exact hzB k9 hk9 hk92), (fun k9 hk9 hk92 => by (try simp (disch := omega) only [sU_n, sU_s]); exact hzR k9 hk9 hk92), (fun k9 hk9 => by (try simp (disch := omega) only [sU_n, sU_s]); exact hzV k9 hk9)⟩
theorem IG_puts {g : T1} {ns nb nr nv b : Nat} {st wh : Int32} (hI : IG g ns nb nr nv) (hb : b < nb) (h : (st = 0 ∧ ∃ j, j < ns ∧ wh = nI j ∧ ∃ d, g (8 + 4 * j + 1) = nI d ∧ cw g 0 (nI j) nb < d ∧ d ≤ 8) ∨ (st = 1 ∧ ∃ j, j < nr ∧ wh = nI j) ∨ (st = 2 ∧ ∃ j, j < nv ∧ wh = nI j ∧ ∃ d, g (200 + 3 * j + 1) = nI d ∧ cw g 2 (nI j) nb < d ∧ d ≤ 6) ∨ (st = 3 ∧ wh = -4)) : IG (sU (sU g (32 + 6 * b) st) (32 + 6 * b + 1) wh) ns nb nr nv := by
  obtain ⟨⟨h0, h1, h2, h3, hs6, hb16, hr8, hv2⟩, ⟨tm, h4, ht⟩, ⟨⟨t5, h5, ht5⟩, ⟨t6, h6, ht6, ht6b⟩, ⟨t7, h7, ht7⟩⟩, hpl, hdk, hbc, hrd, hvn, hzS, hzB, hzR, hzV⟩ := hI
  refine ⟨⟨(by (try simp (disch := omega) only [sU_n, sU_s]); exact h0), (by (try simp (disch := omega) only [sU_n, sU_s]); exact h1), (by (try simp (disch := omega) only [sU_n, sU_s]); exact h2), (by (try simp (disch := omega) only [sU_n, sU_s]); exact h3), hs6, hb16, hr8, hv2⟩, ⟨tm, (by (try simp (disch := omega) only [sU_n, sU_s]); exact h4), ht⟩, ⟨⟨t5, (by (try simp (disch := omega) only [sU_n, sU_s]); exact h5), ht5⟩, ⟨t6, (by (try simp (disch := omega) only [sU_n, sU_s]); exact h6), ht6, ht6b⟩, ⟨t7, (by (try simp (disch := omega) only [sU_n, sU_s]); exact h7), ht7⟩⟩, (fun k9 hk9 => by (try simp (disch := omega) only [sU_n, sU_s]); exact hpl k9 hk9), (fun k hk => by
    have q := cw_put_le (g := g) (g' := (sU (sU g (32 + 6 * b) st) (32 + 6 * b + 1) wh)) (st := 0) (wh := nI k) (b := b) (n := nb) hb (fun j hj hne => by constructor <;> simp (disch := omega) only [sU_n, sU_s])
    simp (disch := omega) only [sU_n, sU_s] at q ⊢
    obtain ⟨d, h5, h6, h7, h8⟩ := hdk k hk
    refine ⟨d, h5, h6, h7, ?_⟩
    by_cases c : st = 0 ∧ wh = nI k
    · rw [if_pos c] at q
      rcases h with ⟨-, j, hj, q2, d2, q3, q4, q5⟩ | ⟨q2, -⟩ | ⟨q2, -⟩ | ⟨q2, -⟩
      · have ejk : j = k := (nI_eq (by omega) (by omega)).mp (q2.symm.trans c.2)
        subst ejk
        have e2 := (nI_eq (by omega) (by omega)).mp (h5.symm.trans q3)
        omega
      · rw [c.1] at q2; exact absurd q2 (by decide)
      · rw [c.1] at q2; exact absurd q2 (by decide)
      · rw [c.1] at q2; exact absurd q2 (by decide)
    · rw [if_neg c] at q
      omega), (fun k hk => by
    by_cases e : k = b
    · subst e
      simp (disch := omega) only [sU_n, sU_s]
      refine ⟨?_, (hbc k hk).2⟩
      rcases h with ⟨q, j, hj, q2, -⟩ | q | ⟨q, j, hj, q2, -⟩ | q
      · exact Or.inl ⟨q, j, hj, q2⟩
      · exact Or.inr (Or.inl q)
      · exact Or.inr (Or.inr (Or.inl ⟨q, j, hj, q2⟩))
      · exact Or.inr (Or.inr (Or.inr q))
    · simp (disch := omega) only [sU_n, sU_s]
      exact hbc k hk), (fun k9 hk9 => RD_congr (fun w hw => by (try simp (disch := omega) only [sU_n, sU_s])) (hrd k9 hk9)), (fun k hk => by
    have q := cw_put_le (g := g) (g' := (sU (sU g (32 + 6 * b) st) (32 + 6 * b + 1) wh)) (st := 2) (wh := nI k) (b := b) (n := nb) hb (fun j hj hne => by constructor <;> simp (disch := omega) only [sU_n, sU_s])
    simp (disch := omega) only [sU_n, sU_s] at q ⊢
    obtain ⟨h9, d, h5, h7, h8⟩ := hvn k hk
    refine ⟨h9, d, h5, h7, ?_⟩
    by_cases c : st = 2 ∧ wh = nI k
    · rw [if_pos c] at q
      rcases h with ⟨q2, -⟩ | ⟨q2, -⟩ | ⟨-, j, hj, q2, d2, q3, q4, q5⟩ | ⟨q2, -⟩
      · rw [c.1] at q2; exact absurd q2 (by decide)
      · rw [c.1] at q2; exact absurd q2 (by decide)
      · have ejk : j = k := (nI_eq (by omega) (by omega)).mp (q2.symm.trans c.2)
        subst ejk
        have e2 := (nI_eq (by omega) (by omega)).mp (h5.symm.trans q3)
        omega
      · rw [c.1] at q2; exact absurd q2 (by decide)
    · rw [if_neg c] at q
      omega), (fun k9 hk9 hk92 => by (try simp (disch := omega) only [sU_n, sU_s]); exact hzS k9 hk9 hk92), (fun k9 hk9 hk92 => by (try simp (disch := omega) only [sU_n, sU_s]); exact hzB k9 hk9 hk92), (fun k9 hk9 hk92 => by (try simp (disch := omega) only [sU_n, sU_s]); exact hzR k9 hk9 hk92), (fun k9 hk9 => by (try simp (disch := omega) only [sU_n, sU_s]); exact hzV k9 hk9)⟩
