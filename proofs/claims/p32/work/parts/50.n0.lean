/-! LAW 0: the law's rows are the reference's row in other places; one call of the class as one step of the row -/
def LR (G P B D R Q V g : T1) : Prop :=
  (∀ i, i < 8 → G i = g i) ∧ (∀ i, i < 24 → P i = g (8 + i)) ∧
  (∀ k, k < 16 → ∀ w, w < 3 → B (3 * k + w) = g (32 + 6 * k + w)) ∧ (∀ k, k < 16 → ∀ w, w < 3 → D (3 * k + w) = g (32 + 6 * k + 3 + w)) ∧
  (∀ k, k < 8 → ∀ w, w < 5 → R (5 * k + w) = g (128 + 9 * k + w)) ∧ (∀ k, k < 8 → ∀ w, w < 4 → Q (4 * k + w) = g (128 + 9 * k + 5 + w)) ∧
  (∀ k, k < 2 → ∀ w, w < 3 → V (3 * k + w) = g (200 + 3 * k + w))
section LRS
variable {G P B D R Q V g : T1} {i k w : Nat} {v : Int32}
theorem lr_G (h : LR G P B D R Q V g) (hi : i < 8) : LR (sU G (i) v) P B D R Q V (sU g (i) v) := by
  obtain ⟨h1, h2, h3, h4, h5, h6, h7⟩ := h
  refine ⟨fun j hj => ?_, fun j hj => ?_, fun j hj u hu => ?_, fun j hj u hu => ?_, fun j hj u hu => ?_, fun j hj u hu => ?_, fun j hj u hu => ?_⟩
  · by_cases e : j = i
    · subst e
      rw [sU_s, sU_s]
    · rw [sU_n e, sU_n (by omega)]
      exact h1 j hj
  · rw [sU_n (by omega)]
    exact h2 j hj
  · rw [sU_n (by omega)]
    exact h3 j hj u hu
  · rw [sU_n (by omega)]
    exact h4 j hj u hu
  · rw [sU_n (by omega)]
    exact h5 j hj u hu
  · rw [sU_n (by omega)]
    exact h6 j hj u hu
  · rw [sU_n (by omega)]
    exact h7 j hj u hu
theorem lr_P (h : LR G P B D R Q V g) (hi : i < 24) : LR G (sU P (i) v) B D R Q V (sU g (8 + i) v) := by
  obtain ⟨h1, h2, h3, h4, h5, h6, h7⟩ := h
  refine ⟨fun j hj => ?_, fun j hj => ?_, fun j hj u hu => ?_, fun j hj u hu => ?_, fun j hj u hu => ?_, fun j hj u hu => ?_, fun j hj u hu => ?_⟩
  · rw [sU_n (by omega)]
    exact h1 j hj
  · by_cases e : j = i
    · subst e
      rw [sU_s, sU_s]
    · rw [sU_n e, sU_n (by omega)]
      exact h2 j hj
  · rw [sU_n (by omega)]
    exact h3 j hj u hu
  · rw [sU_n (by omega)]
    exact h4 j hj u hu
  · rw [sU_n (by omega)]
    exact h5 j hj u hu
  · rw [sU_n (by omega)]
    exact h6 j hj u hu
  · rw [sU_n (by omega)]
    exact h7 j hj u hu
theorem lr_B (h : LR G P B D R Q V g) (hk : k < 16) (hw : w < 3) : LR G P (sU B (3 * k + w) v) D R Q V (sU g (32 + 6 * k + w) v) := by
  obtain ⟨h1, h2, h3, h4, h5, h6, h7⟩ := h
  refine ⟨fun j hj => ?_, fun j hj => ?_, fun j hj u hu => ?_, fun j hj u hu => ?_, fun j hj u hu => ?_, fun j hj u hu => ?_, fun j hj u hu => ?_⟩
  · rw [sU_n (by omega)]
    exact h1 j hj
  · rw [sU_n (by omega)]
    exact h2 j hj
  · by_cases e : 3 * j + u = 3 * k + w
    · obtain ⟨rfl, rfl⟩ : j = k ∧ u = w := by omega
      rw [sU_s, sU_s]
    · rw [sU_n e, sU_n (by omega)]
      exact h3 j hj u hu
  · rw [sU_n (by omega)]
    exact h4 j hj u hu
  · rw [sU_n (by omega)]
    exact h5 j hj u hu
  · rw [sU_n (by omega)]
    exact h6 j hj u hu
  · rw [sU_n (by omega)]
    exact h7 j hj u hu
theorem lr_D (h : LR G P B D R Q V g) (hk : k < 16) (hw : w < 3) : LR G P B (sU D (3 * k + w) v) R Q V (sU g (32 + 6 * k + 3 + w) v) := by
  obtain ⟨h1, h2, h3, h4, h5, h6, h7⟩ := h
  refine ⟨fun j hj => ?_, fun j hj => ?_, fun j hj u hu => ?_, fun j hj u hu => ?_, fun j hj u hu => ?_, fun j hj u hu => ?_, fun j hj u hu => ?_⟩
  · rw [sU_n (by omega)]
    exact h1 j hj
  · rw [sU_n (by omega)]
    exact h2 j hj
  · rw [sU_n (by omega)]
    exact h3 j hj u hu
  · by_cases e : 3 * j + u = 3 * k + w
    · obtain ⟨rfl, rfl⟩ : j = k ∧ u = w := by omega
      rw [sU_s, sU_s]
    · rw [sU_n e, sU_n (by omega)]
      exact h4 j hj u hu
  · rw [sU_n (by omega)]
    exact h5 j hj u hu
  · rw [sU_n (by omega)]
    exact h6 j hj u hu
  · rw [sU_n (by omega)]
    exact h7 j hj u hu
theorem lr_R (h : LR G P B D R Q V g) (hk : k < 8) (hw : w < 5) : LR G P B D (sU R (5 * k + w) v) Q V (sU g (128 + 9 * k + w) v) := by
  obtain ⟨h1, h2, h3, h4, h5, h6, h7⟩ := h
  refine ⟨fun j hj => ?_, fun j hj => ?_, fun j hj u hu => ?_, fun j hj u hu => ?_, fun j hj u hu => ?_, fun j hj u hu => ?_, fun j hj u hu => ?_⟩
  · rw [sU_n (by omega)]
    exact h1 j hj
  · rw [sU_n (by omega)]
    exact h2 j hj
  · rw [sU_n (by omega)]
    exact h3 j hj u hu
  · rw [sU_n (by omega)]
    exact h4 j hj u hu
  · by_cases e : 5 * j + u = 5 * k + w
    · obtain ⟨rfl, rfl⟩ : j = k ∧ u = w := by omega
      rw [sU_s, sU_s]
    · rw [sU_n e, sU_n (by omega)]
      exact h5 j hj u hu
  · rw [sU_n (by omega)]
    exact h6 j hj u hu
  · rw [sU_n (by omega)]
    exact h7 j hj u hu
theorem lr_Q (h : LR G P B D R Q V g) (hk : k < 8) (hw : w < 4) : LR G P B D R (sU Q (4 * k + w) v) V (sU g (128 + 9 * k + 5 + w) v) := by
  obtain ⟨h1, h2, h3, h4, h5, h6, h7⟩ := h
  refine ⟨fun j hj => ?_, fun j hj => ?_, fun j hj u hu => ?_, fun j hj u hu => ?_, fun j hj u hu => ?_, fun j hj u hu => ?_, fun j hj u hu => ?_⟩
  · rw [sU_n (by omega)]
    exact h1 j hj
  · rw [sU_n (by omega)]
    exact h2 j hj
  · rw [sU_n (by omega)]
    exact h3 j hj u hu
  · rw [sU_n (by omega)]
    exact h4 j hj u hu
  · rw [sU_n (by omega)]
    exact h5 j hj u hu
  · by_cases e : 4 * j + u = 4 * k + w
    · obtain ⟨rfl, rfl⟩ : j = k ∧ u = w := by omega
      rw [sU_s, sU_s]
    · rw [sU_n e, sU_n (by omega)]
      exact h6 j hj u hu
  · rw [sU_n (by omega)]
    exact h7 j hj u hu
theorem lr_V (h : LR G P B D R Q V g) (hk : k < 2) (hw : w < 3) : LR G P B D R Q (sU V (3 * k + w) v) (sU g (200 + 3 * k + w) v) := by
  obtain ⟨h1, h2, h3, h4, h5, h6, h7⟩ := h
  refine ⟨fun j hj => ?_, fun j hj => ?_, fun j hj u hu => ?_, fun j hj u hu => ?_, fun j hj u hu => ?_, fun j hj u hu => ?_, fun j hj u hu => ?_⟩
  · rw [sU_n (by omega)]
    exact h1 j hj
  · rw [sU_n (by omega)]
    exact h2 j hj
  · rw [sU_n (by omega)]
    exact h3 j hj u hu
  · rw [sU_n (by omega)]
    exact h4 j hj u hu
  · rw [sU_n (by omega)]
    exact h5 j hj u hu
  · rw [sU_n (by omega)]
    exact h6 j hj u hu
  · by_cases e : 3 * j + u = 3 * k + w
    · obtain ⟨rfl, rfl⟩ : j = k ∧ u = w := by omega
      rw [sU_s, sU_s]
    · rw [sU_n e, sU_n (by omega)]
      exact h7 j hj u hu
theorem lr_B0 (h : LR G P B D R Q V g) (hk : k < 16) : LR G P (sU B (3 * k) v) D R Q V (sU g (32 + 6 * k) v) := lr_B (w := 0) h hk (by decide)
theorem lr_B1 (h : LR G P B D R Q V g) (hk : k < 16) : LR G P (sU B (3 * k + 1) v) D R Q V (sU g (32 + 6 * k + 1) v) := lr_B (w := 1) h hk (by decide)
theorem lr_B2 (h : LR G P B D R Q V g) (hk : k < 16) : LR G P (sU B (3 * k + 2) v) D R Q V (sU g (32 + 6 * k + 2) v) := lr_B (w := 2) h hk (by decide)
theorem lr_D0 (h : LR G P B D R Q V g) (hk : k < 16) : LR G P B (sU D (3 * k) v) R Q V (sU g (32 + 6 * k + 3) v) := lr_D (w := 0) h hk (by decide)
theorem lr_D1 (h : LR G P B D R Q V g) (hk : k < 16) : LR G P B (sU D (3 * k + 1) v) R Q V (sU g (32 + 6 * k + 4) v) := lr_D (w := 1) h hk (by decide)
theorem lr_D2 (h : LR G P B D R Q V g) (hk : k < 16) : LR G P B (sU D (3 * k + 2) v) R Q V (sU g (32 + 6 * k + 5) v) := lr_D (w := 2) h hk (by decide)
theorem lr_R0 (h : LR G P B D R Q V g) (hk : k < 8) : LR G P B D (sU R (5 * k) v) Q V (sU g (128 + 9 * k) v) := lr_R (w := 0) h hk (by decide)
theorem lr_R1 (h : LR G P B D R Q V g) (hk : k < 8) : LR G P B D (sU R (5 * k + 1) v) Q V (sU g (128 + 9 * k + 1) v) := lr_R (w := 1) h hk (by decide)
theorem lr_R2 (h : LR G P B D R Q V g) (hk : k < 8) : LR G P B D (sU R (5 * k + 2) v) Q V (sU g (128 + 9 * k + 2) v) := lr_R (w := 2) h hk (by decide)
theorem lr_R3 (h : LR G P B D R Q V g) (hk : k < 8) : LR G P B D (sU R (5 * k + 3) v) Q V (sU g (128 + 9 * k + 3) v) := lr_R (w := 3) h hk (by decide)
theorem lr_R4 (h : LR G P B D R Q V g) (hk : k < 8) : LR G P B D (sU R (5 * k + 4) v) Q V (sU g (128 + 9 * k + 4) v) := lr_R (w := 4) h hk (by decide)
theorem lr_Q0 (h : LR G P B D R Q V g) (hk : k < 8) : LR G P B D R (sU Q (4 * k) v) V (sU g (128 + 9 * k + 5) v) := lr_Q (w := 0) h hk (by decide)
theorem lr_Q1 (h : LR G P B D R Q V g) (hk : k < 8) : LR G P B D R (sU Q (4 * k + 1) v) V (sU g (128 + 9 * k + 6) v) := lr_Q (w := 1) h hk (by decide)
theorem lr_Q2 (h : LR G P B D R Q V g) (hk : k < 8) : LR G P B D R (sU Q (4 * k + 2) v) V (sU g (128 + 9 * k + 7) v) := lr_Q (w := 2) h hk (by decide)
theorem lr_Q3 (h : LR G P B D R Q V g) (hk : k < 8) : LR G P B D R (sU Q (4 * k + 3) v) V (sU g (128 + 9 * k + 8) v) := lr_Q (w := 3) h hk (by decide)
theorem lr_V0 (h : LR G P B D R Q V g) (hk : k < 2) : LR G P B D R Q (sU V (3 * k) v) (sU g (200 + 3 * k) v) := lr_V (w := 0) h hk (by decide)
theorem lr_V1 (h : LR G P B D R Q V g) (hk : k < 2) : LR G P B D R Q (sU V (3 * k + 1) v) (sU g (200 + 3 * k + 1) v) := lr_V (w := 1) h hk (by decide)
theorem lr_V2 (h : LR G P B D R Q V g) (hk : k < 2) : LR G P B D R Q (sU V (3 * k + 2) v) (sU g (200 + 3 * k + 2) v) := lr_V (w := 2) h hk (by decide)
theorem lr_P0 (h : LR G P B D R Q V g) (hk : k < 6) : LR G (sU P (4 * k) v) B D R Q V (sU g (8 + 4 * k) v) := by
  rw [show 8 + 4 * k = 8 + (4 * k) by omega]
  exact lr_P h (by omega)
theorem lr_P1 (h : LR G P B D R Q V g) (hk : k < 6) : LR G (sU P (4 * k + 1) v) B D R Q V (sU g (8 + 4 * k + 1) v) := by
  rw [show 8 + 4 * k + 1 = 8 + (4 * k + 1) by omega]
  exact lr_P h (by omega)
theorem lr_P2 (h : LR G P B D R Q V g) (hk : k < 6) : LR G (sU P (4 * k + 2) v) B D R Q V (sU g (8 + 4 * k + 2) v) := by
  rw [show 8 + 4 * k + 2 = 8 + (4 * k + 2) by omega]
  exact lr_P h (by omega)
theorem lr_P3 (h : LR G P B D R Q V g) (hk : k < 6) : LR G (sU P (4 * k + 3) v) B D R Q V (sU g (8 + 4 * k + 3) v) := by
  rw [show 8 + 4 * k + 3 = 8 + (4 * k + 3) by omega]
  exact lr_P h (by omega)
theorem LR.G0 (h : LR G P B D R Q V g) : G 0 = g 0 := h.1 0 (by decide)
theorem LR.G1 (h : LR G P B D R Q V g) : G 1 = g 1 := h.1 1 (by decide)
theorem LR.G2 (h : LR G P B D R Q V g) : G 2 = g 2 := h.1 2 (by decide)
theorem LR.G3 (h : LR G P B D R Q V g) : G 3 = g 3 := h.1 3 (by decide)
theorem LR.G4 (h : LR G P B D R Q V g) : G 4 = g 4 := h.1 4 (by decide)
theorem LR.G5 (h : LR G P B D R Q V g) : G 5 = g 5 := h.1 5 (by decide)
theorem LR.G6 (h : LR G P B D R Q V g) : G 6 = g 6 := h.1 6 (by decide)
theorem LR.G7 (h : LR G P B D R Q V g) : G 7 = g 7 := h.1 7 (by decide)
theorem LR.B0 (h : LR G P B D R Q V g) (hk : k < 16) : B (3 * k) = g (32 + 6 * k) := h.2.2.1 k hk 0 (by decide)
theorem LR.B1 (h : LR G P B D R Q V g) (hk : k < 16) : B (3 * k + 1) = g (32 + 6 * k + 1) := h.2.2.1 k hk 1 (by decide)
theorem LR.B2 (h : LR G P B D R Q V g) (hk : k < 16) : B (3 * k + 2) = g (32 + 6 * k + 2) := h.2.2.1 k hk 2 (by decide)
theorem LR.D0 (h : LR G P B D R Q V g) (hk : k < 16) : D (3 * k) = g (32 + 6 * k + 3) := h.2.2.2.1 k hk 0 (by decide)
theorem LR.D1 (h : LR G P B D R Q V g) (hk : k < 16) : D (3 * k + 1) = g (32 + 6 * k + 4) := h.2.2.2.1 k hk 1 (by decide)
theorem LR.D2 (h : LR G P B D R Q V g) (hk : k < 16) : D (3 * k + 2) = g (32 + 6 * k + 5) := h.2.2.2.1 k hk 2 (by decide)
theorem LR.R0 (h : LR G P B D R Q V g) (hk : k < 8) : R (5 * k) = g (128 + 9 * k) := h.2.2.2.2.1 k hk 0 (by decide)
theorem LR.R1 (h : LR G P B D R Q V g) (hk : k < 8) : R (5 * k + 1) = g (128 + 9 * k + 1) := h.2.2.2.2.1 k hk 1 (by decide)
theorem LR.R2 (h : LR G P B D R Q V g) (hk : k < 8) : R (5 * k + 2) = g (128 + 9 * k + 2) := h.2.2.2.2.1 k hk 2 (by decide)
theorem LR.R3 (h : LR G P B D R Q V g) (hk : k < 8) : R (5 * k + 3) = g (128 + 9 * k + 3) := h.2.2.2.2.1 k hk 3 (by decide)
theorem LR.R4 (h : LR G P B D R Q V g) (hk : k < 8) : R (5 * k + 4) = g (128 + 9 * k + 4) := h.2.2.2.2.1 k hk 4 (by decide)
theorem LR.Q0 (h : LR G P B D R Q V g) (hk : k < 8) : Q (4 * k) = g (128 + 9 * k + 5) := h.2.2.2.2.2.1 k hk 0 (by decide)
theorem LR.Q1 (h : LR G P B D R Q V g) (hk : k < 8) : Q (4 * k + 1) = g (128 + 9 * k + 6) := h.2.2.2.2.2.1 k hk 1 (by decide)
theorem LR.Q2 (h : LR G P B D R Q V g) (hk : k < 8) : Q (4 * k + 2) = g (128 + 9 * k + 7) := h.2.2.2.2.2.1 k hk 2 (by decide)
theorem LR.Q3 (h : LR G P B D R Q V g) (hk : k < 8) : Q (4 * k + 3) = g (128 + 9 * k + 8) := h.2.2.2.2.2.1 k hk 3 (by decide)
theorem LR.V0 (h : LR G P B D R Q V g) (hk : k < 2) : V (3 * k) = g (200 + 3 * k) := h.2.2.2.2.2.2 k hk 0 (by decide)
theorem LR.V1 (h : LR G P B D R Q V g) (hk : k < 2) : V (3 * k + 1) = g (200 + 3 * k + 1) := h.2.2.2.2.2.2 k hk 1 (by decide)
theorem LR.V2 (h : LR G P B D R Q V g) (hk : k < 2) : V (3 * k + 2) = g (200 + 3 * k + 2) := h.2.2.2.2.2.2 k hk 2 (by decide)
theorem LR.P0 (h : LR G P B D R Q V g) (hk : k < 6) : P (4 * k) = g (8 + 4 * k) := (h.2.1 (4 * k) (by omega)).trans (congrArg g (by omega))
theorem LR.P1 (h : LR G P B D R Q V g) (hk : k < 6) : P (4 * k + 1) = g (8 + 4 * k + 1) := (h.2.1 (4 * k + 1) (by omega)).trans (congrArg g (by omega))
theorem LR.P2 (h : LR G P B D R Q V g) (hk : k < 6) : P (4 * k + 2) = g (8 + 4 * k + 2) := (h.2.1 (4 * k + 2) (by omega)).trans (congrArg g (by omega))
theorem LR.P3 (h : LR G P B D R Q V g) (hk : k < 6) : P (4 * k + 3) = g (8 + 4 * k + 3) := (h.2.1 (4 * k + 3) (by omega)).trans (congrArg g (by omega))
end LRS
theorem mu3 (k : Nat) : (3 : Int32) * nI k = nI (3 * k) := pk_mul 3 k
theorem mu4 (k : Nat) : (4 : Int32) * nI k = nI (4 * k) := pk_mul 4 k
theorem mu5 (k : Nat) : (5 : Int32) * nI k = nI (5 * k) := pk_mul 5 k
theorem pl0 (k : Nat) : nI k + 0 = nI k := nI_add k 0
theorem pl2 (k : Nat) : nI k + 2 = nI (k + 2) := nI_add k 2
theorem pl3 (k : Nat) : nI k + 3 = nI (k + 3) := nI_add k 3
theorem pl4 (k : Nat) : nI k + 4 = nI (k + 4) := nI_add k 4
theorem lq1 (k : Nat) : (1 : Int32) + nI k = nI (1 + k) := nI_add 1 k
theorem lq5 (k : Nat) : (5 : Int32) + nI k = nI (5 + k) := nI_add 5 k
/-- a call of the class, as a step of the reference's row -/
def lStp (σ : T2) (X : Option (Int32 × T5)) (r : Int32) (g' : T1) : Prop := ∃ (x' : T5) (σ' : T2), X = some (r, x') ∧ Rel x' σ' ∧ σ' 0 = g' ∧ σ' 6 3 = σ 6 3
theorem ls_o {x : T5} {σ : T2} {X : Option (Int32 × T5)} {M : Option (Int32 × T2)} {r : Int32} {g' : T1} (h : Rel x σ) (hL : LIFT x X σ M) (hM : ∀ σc : T2, CH σ σc → M = some (r, sU σc 0 g')) : lStp σ X r g' := by
  obtain ⟨-, h2, ⟨n, o, h3, h4, -⟩, -⟩ := h
  obtain ⟨y, e1, -, -⟩ := M_changes h2 h3 h4
  obtain ⟨r', x', σ', a1, a2, a3⟩ := hL
  have e2 := hM _ ⟨e1, by simp (disch := omega) only [sU_n]⟩
  rw [a2] at e2
  obtain ⟨e3, e4⟩ := Prod.mk.inj (Option.some.inj e2)
  subst e3
  subst e4
  exact ⟨x', _, a1, a3, sU_s, by simp (disch := omega) only [sU_n, sU_s]⟩
theorem ls_e {x : T5} {σ : T2} {X : Option (Int32 × T5)} {M : Option (Int32 × T2)} {r : Int32} (hL : LIFT x X σ M) (hM : M = some (r, σ)) : lStp σ X r (σ 0) := by
  obtain ⟨r', x', σ', a1, a2, a3⟩ := hL
  rw [a2] at hM
  obtain ⟨e3, e4⟩ := Prod.mk.inj (Option.some.inj hM)
  subst e3
  subst e4
  exact ⟨x', _, a1, a3, rfl, rfl⟩
/-- what is begun is what the riders have ended and are at -/
def lBG (g : T1) : Prop := ∃ ns nr, g 0 = nI ns ∧ g 2 = nI nr ∧ ns ≤ 6 ∧ nr ≤ 8 ∧ sm (fun k => g (8 + 4 * k + 2)) ns = sm (fun k => g (128 + 9 * k + 7) + (if g (128 + 9 * k + 2) < 0 then 0 else 1)) nr
theorem sm_cg {f f' : Nat → Int32} : ∀ n, (∀ k, k < n → f' k = f k) → sm f' n = sm f n
  | 0, _ => rfl
  | n + 1, h => by rw [sm, sm, sm_cg n (fun k hk => h k (by omega)), h n (by omega)]
theorem sm_up {f f' : Nat → Int32} {k : Nat} {c : Int32} : ∀ n, k < n → (∀ j, j < n → j ≠ k → f' j = f j) → f' k = f k + c → sm f' n = sm f n + c
  | 0, h, _, _ => absurd h (Nat.not_lt_zero _)
  | n + 1, h, h1, h2 => by
    rw [sm, sm]
    by_cases e : k = n
    · subst e
      rw [h2, sm_cg k (fun j hj => h1 j (by omega) (by omega)), Int32.add_assoc]
    · rw [sm_up n (by omega) (fun j hj hn => h1 j (by omega) hn) h2, h1 n (by omega) (fun q => e q.symm), Int32.add_assoc, Int32.add_assoc, Int32.add_comm c]
theorem bg_same {g g' : T1} (h : lBG g) (h0 : g' 0 = g 0) (h2 : g' 2 = g 2) (hs : ∀ k, k < 6 → g' (8 + 4 * k + 2) = g (8 + 4 * k + 2)) (hr : ∀ k, k < 8 → g' (128 + 9 * k + 7) = g (128 + 9 * k + 7) ∧ g' (128 + 9 * k + 2) = g (128 + 9 * k + 2)) : lBG g' := by
  obtain ⟨ns, nr, a, b, c, d, e⟩ := h
  refine ⟨ns, nr, h0.trans a, h2.trans b, c, d, ?_⟩
  rw [sm_cg (f := fun k => g (8 + 4 * k + 2)) ns (fun k hk => hs k (by omega)), sm_cg (f := fun k => g (128 + 9 * k + 7) + (if g (128 + 9 * k + 2) < 0 then 0 else 1)) nr (fun k hk => by
    show g' (128 + 9 * k + 7) + (if g' (128 + 9 * k + 2) < 0 then 0 else 1) = _
    rw [(hr k (by omega)).1, (hr k (by omega)).2]), e]
/-- the law's state and the object's -/
def lJ (T : Nat) (G P B D R Q V : T1) (x : T5) (σ : T2) : Prop := Rel x σ ∧ LR G P B D R Q V (σ 0) ∧ σ 6 3 = 0 ∧ lBG (σ 0) ∧ ∃ t, σ 0 4 = nI t ∧ t ≤ T
theorem lJ.of {T T' : Nat} {G P B D R Q V G' P' B' D' R' Q' V' : T1} {x : T5} {σ : T2} {X : Option (Int32 × T5)} {r : Int32} {g' : T1} (h : lJ T G P B D R Q V x σ) (hS : lStp σ X r g') (hl : LR G' P' B' D' R' Q' V' g') (hb : lBG g') (ht : ∃ t, g' 4 = nI t ∧ t ≤ T') : ∃ (x' : T5) (σ' : T2), X = some (r, x') ∧ lJ T' G' P' B' D' R' Q' V' x' σ' := by
  obtain ⟨x', σ', a1, a2, a3, a4⟩ := hS
  subst a3
  exact ⟨x', σ', a1, a2, hl, a4.trans h.2.2.1, hb, ht⟩
theorem lJ.e {T : Nat} {G P B D R Q V : T1} {x : T5} {σ : T2} {X : Option (Int32 × T5)} {r : Int32} (h : lJ T G P B D R Q V x σ) (hS : lStp σ X r (σ 0)) : ∃ (x' : T5) (σ' : T2), X = some (r, x') ∧ lJ T G P B D R Q V x' σ' := h.of hS h.2.1 h.2.2.2.1 h.2.2.2.2
theorem low_s (v : Int32) {n : Nat} (h0 : 0 < n) (hn : n < 2 ^ 31) : fL_low v (nI n) = some (nI (v.toBitVec.toNat % 2 ^ 31 % n)) := by
  have e : v &&& 2147483647 = nI (v.toBitVec.toNat % 2 ^ 31) := pk_and v 31 (by decide)
  have hl : v.toBitVec.toNat % 2 ^ 31 < 2 ^ 31 := Nat.mod_lt _ (by decide)
  rw [fL_low, nz_s (nI_ne0 h0 hn), e, pk_rem hl h0 hn]
theorem low_e (v : Int32) {n : Nat} (h0 : 0 < n) (hn : n < 2 ^ 31) : ∃ y, y < n ∧ fL_low v (nI n) = some (nI y) := ⟨_, Nat.mod_lt _ h0, low_s v h0 hn⟩
